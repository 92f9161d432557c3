theorem dM_past_59 : decode mM_past.2.1 59 = .ok (.aload_n 0, 1) := by decide +kernel
theorem dM_past_60 : decode mM_past.2.1 60 = .ok (.getfield 36, 3) := by decide +kernel
theorem dM_past_63 : decode mM_past.2.1 63 = .ok (.iload_n 1, 1) := by decide +kernel
theorem dM_past_64 : decode mM_past.2.1 64 = .ok (.iaload, 1) := by decide +kernel
theorem dM_past_65 : decode mM_past.2.1 65 = .ok (.if_icmp .ge 27, 3) := by decide +kernel
theorem dM_past_68 : decode mM_past.2.1 68 = .ok (.aload_n 0, 1) := by decide +kernel
theorem dM_past_69 : decode mM_past.2.1 69 = .ok (.getfield 39, 3) := by decide +kernel
theorem dM_past_72 : decode mM_past.2.1 72 = .ok (.sipush 520, 3) := by decide +kernel
theorem dM_past_75 : decode mM_past.2.1 75 = .ok (.iload_n 1, 1) := by decide +kernel
theorem dM_past_76 : decode mM_past.2.1 76 = .ok (.imul, 1) := by decide +kernel
theorem dM_past_77 : decode mM_past.2.1 77 = .ok (.iload_n 3, 1) := by decide +kernel
theorem dM_past_78 : decode mM_past.2.1 78 = .ok (.iadd, 1) := by decide +kernel
theorem dM_past_79 : decode mM_past.2.1 79 = .ok (.iconst 1, 1) := by decide +kernel
theorem dM_past_80 : decode mM_past.2.1 80 = .ok (.iadd, 1) := by decide +kernel
theorem dM_past_81 : decode mM_past.2.1 81 = .ok (.iaload, 1) := by decide +kernel
theorem dM_past_82 : decode mM_past.2.1 82 = .ok (.iload_n 2, 1) := by decide +kernel
theorem dM_past_83 : decode mM_past.2.1 83 = .ok (.if_icmp .gt 9, 3) := by decide +kernel
theorem dM_past_86 : decode mM_past.2.1 86 = .ok (.iinc 3 1, 3) := by decide +kernel
theorem dM_past_89 : decode mM_past.2.1 89 = .ok (.goto (-33), 3) := by decide +kernel
theorem dM_past_92 : decode mM_past.2.1 92 = .ok (.aload_n 0, 1) := by decide +kernel
theorem dM_past_93 : decode mM_past.2.1 93 = .ok (.getfield 45, 3) := by decide +kernel
theorem dM_past_96 : decode mM_past.2.1 96 = .ok (.sipush 520, 3) := by decide +kernel
theorem dM_past_99 : decode mM_past.2.1 99 = .ok (.iload_n 1, 1) := by decide +kernel
theorem dM_past_100 : decode mM_past.2.1 100 = .ok (.imul, 1) := by decide +kernel
theorem dM_past_101 : decode mM_past.2.1 101 = .ok (.iload_n 3, 1) := by decide +kernel
theorem dM_past_102 : decode mM_past.2.1 102 = .ok (.iadd, 1) := by decide +kernel
theorem dM_past_103 : decode mM_past.2.1 103 = .ok (.laload, 1) := by decide +kernel
theorem dM_past_104 : decode mM_past.2.1 104 = .ok (.lreturn, 1) := by decide +kernel
theorem dM_forget_0 : decode mM_forget.2.1 0 = .ok (.aload_n 0, 1) := by decide +kernel
theorem dM_forget_1 : decode mM_forget.2.1 1 = .ok (.iconst 0, 1) := by decide +kernel
theorem dM_forget_2 : decode mM_forget.2.1 2 = .ok (.putfield 48, 3) := by decide +kernel
theorem dM_forget_5 : decode mM_forget.2.1 5 = .ok (.iconst 0, 1) := by decide +kernel
theorem dM_forget_6 : decode mM_forget.2.1 6 = .ok (.istore_n 1, 1) := by decide +kernel
theorem dM_forget_7 : decode mM_forget.2.1 7 = .ok (.aload_n 0, 1) := by decide +kernel
theorem dM_forget_8 : decode mM_forget.2.1 8 = .ok (.invokevirtual 101, 3) := by decide +kernel
theorem dM_forget_11 : decode mM_forget.2.1 11 = .ok (.istore_n 2, 1) := by decide +kernel
theorem dM_forget_12 : decode mM_forget.2.1 12 = .ok (.iconst 0, 1) := by decide +kernel
theorem dM_forget_13 : decode mM_forget.2.1 13 = .ok (.istore_n 3, 1) := by decide +kernel
theorem dM_forget_14 : decode mM_forget.2.1 14 = .ok (.iload_n 3, 1) := by decide +kernel
theorem dM_forget_15 : decode mM_forget.2.1 15 = .ok (.bipush 16, 2) := by decide +kernel
theorem dM_forget_17 : decode mM_forget.2.1 17 = .ok (.if_icmp .ge 127, 3) := by decide +kernel
theorem dM_forget_20 : decode mM_forget.2.1 20 = .ok (.aload_n 0, 1) := by decide +kernel
theorem dM_forget_21 : decode mM_forget.2.1 21 = .ok (.getfield 36, 3) := by decide +kernel
theorem dM_forget_24 : decode mM_forget.2.1 24 = .ok (.iload_n 3, 1) := by decide +kernel
theorem dM_forget_25 : decode mM_forget.2.1 25 = .ok (.iaload, 1) := by decide +kernel
theorem dM_forget_26 : decode mM_forget.2.1 26 = .ok (.iconst 1, 1) := by decide +kernel
theorem dM_forget_27 : decode mM_forget.2.1 27 = .ok (.if_icmp .le 111, 3) := by decide +kernel
theorem dM_forget_30 : decode mM_forget.2.1 30 = .ok (.aload_n 0, 1) := by decide +kernel
theorem dM_forget_31 : decode mM_forget.2.1 31 = .ok (.getfield 39, 3) := by decide +kernel
theorem dM_forget_34 : decode mM_forget.2.1 34 = .ok (.sipush 520, 3) := by decide +kernel
theorem dM_forget_37 : decode mM_forget.2.1 37 = .ok (.iload_n 3, 1) := by decide +kernel
theorem dM_forget_38 : decode mM_forget.2.1 38 = .ok (.imul, 1) := by decide +kernel
theorem dM_forget_39 : decode mM_forget.2.1 39 = .ok (.iconst 1, 1) := by decide +kernel
theorem dM_forget_40 : decode mM_forget.2.1 40 = .ok (.iadd, 1) := by decide +kernel
theorem dM_forget_41 : decode mM_forget.2.1 41 = .ok (.iaload, 1) := by decide +kernel
theorem dM_forget_42 : decode mM_forget.2.1 42 = .ok (.iload_n 2, 1) := by decide +kernel
theorem dM_forget_43 : decode mM_forget.2.1 43 = .ok (.if_icmp .gt 95, 3) := by decide +kernel
theorem dM_forget_46 : decode mM_forget.2.1 46 = .ok (.aload_n 0, 1) := by decide +kernel
theorem dM_forget_47 : decode mM_forget.2.1 47 = .ok (.getfield 36, 3) := by decide +kernel
theorem dM_forget_50 : decode mM_forget.2.1 50 = .ok (.iload_n 3, 1) := by decide +kernel
theorem dM_forget_51 : decode mM_forget.2.1 51 = .ok (.dup2, 1) := by decide +kernel
theorem dM_forget_52 : decode mM_forget.2.1 52 = .ok (.iaload, 1) := by decide +kernel
theorem dM_forget_53 : decode mM_forget.2.1 53 = .ok (.iconst 1, 1) := by decide +kernel
theorem dM_forget_54 : decode mM_forget.2.1 54 = .ok (.isub, 1) := by decide +kernel
theorem dM_forget_55 : decode mM_forget.2.1 55 = .ok (.iastore, 1) := by decide +kernel
theorem dM_forget_56 : decode mM_forget.2.1 56 = .ok (.iinc 1 1, 3) := by decide +kernel
theorem dM_forget_59 : decode mM_forget.2.1 59 = .ok (.iconst 0, 1) := by decide +kernel
theorem dM_forget_60 : decode mM_forget.2.1 60 = .ok (.istore 4, 2) := by decide +kernel
theorem dM_forget_62 : decode mM_forget.2.1 62 = .ok (.iload 4, 2) := by decide +kernel
theorem dM_forget_64 : decode mM_forget.2.1 64 = .ok (.aload_n 0, 1) := by decide +kernel
theorem dM_forget_65 : decode mM_forget.2.1 65 = .ok (.getfield 36, 3) := by decide +kernel
theorem dM_forget_68 : decode mM_forget.2.1 68 = .ok (.iload_n 3, 1) := by decide +kernel
theorem dM_forget_69 : decode mM_forget.2.1 69 = .ok (.iaload, 1) := by decide +kernel
theorem dM_forget_70 : decode mM_forget.2.1 70 = .ok (.if_icmp .ge 65, 3) := by decide +kernel
theorem dM_forget_73 : decode mM_forget.2.1 73 = .ok (.aload_n 0, 1) := by decide +kernel
theorem dM_forget_74 : decode mM_forget.2.1 74 = .ok (.getfield 39, 3) := by decide +kernel
theorem dM_forget_77 : decode mM_forget.2.1 77 = .ok (.sipush 520, 3) := by decide +kernel
theorem dM_forget_80 : decode mM_forget.2.1 80 = .ok (.iload_n 3, 1) := by decide +kernel
theorem dM_forget_81 : decode mM_forget.2.1 81 = .ok (.imul, 1) := by decide +kernel
theorem dM_forget_82 : decode mM_forget.2.1 82 = .ok (.iload 4, 2) := by decide +kernel
theorem dM_forget_84 : decode mM_forget.2.1 84 = .ok (.iadd, 1) := by decide +kernel
theorem dM_forget_85 : decode mM_forget.2.1 85 = .ok (.aload_n 0, 1) := by decide +kernel
theorem dM_forget_86 : decode mM_forget.2.1 86 = .ok (.getfield 39, 3) := by decide +kernel
theorem dM_forget_89 : decode mM_forget.2.1 89 = .ok (.sipush 520, 3) := by decide +kernel
theorem dM_forget_92 : decode mM_forget.2.1 92 = .ok (.iload_n 3, 1) := by decide +kernel
theorem dM_forget_93 : decode mM_forget.2.1 93 = .ok (.imul, 1) := by decide +kernel
theorem dM_forget_94 : decode mM_forget.2.1 94 = .ok (.iload 4, 2) := by decide +kernel
theorem dM_forget_96 : decode mM_forget.2.1 96 = .ok (.iadd, 1) := by decide +kernel
theorem dM_forget_97 : decode mM_forget.2.1 97 = .ok (.iconst 1, 1) := by decide +kernel
theorem dM_forget_98 : decode mM_forget.2.1 98 = .ok (.iadd, 1) := by decide +kernel
theorem dM_forget_99 : decode mM_forget.2.1 99 = .ok (.iaload, 1) := by decide +kernel
theorem dM_forget_100 : decode mM_forget.2.1 100 = .ok (.iastore, 1) := by decide +kernel
theorem dM_forget_101 : decode mM_forget.2.1 101 = .ok (.aload_n 0, 1) := by decide +kernel
theorem dM_forget_102 : decode mM_forget.2.1 102 = .ok (.getfield 45, 3) := by decide +kernel
theorem dM_forget_105 : decode mM_forget.2.1 105 = .ok (.sipush 520, 3) := by decide +kernel
theorem dM_forget_108 : decode mM_forget.2.1 108 = .ok (.iload_n 3, 1) := by decide +kernel
theorem dM_forget_109 : decode mM_forget.2.1 109 = .ok (.imul, 1) := by decide +kernel
theorem dM_forget_110 : decode mM_forget.2.1 110 = .ok (.iload 4, 2) := by decide +kernel
theorem dM_forget_112 : decode mM_forget.2.1 112 = .ok (.iadd, 1) := by decide +kernel
theorem dM_forget_113 : decode mM_forget.2.1 113 = .ok (.aload_n 0, 1) := by decide +kernel
theorem dM_forget_114 : decode mM_forget.2.1 114 = .ok (.getfield 45, 3) := by decide +kernel
theorem dM_forget_117 : decode mM_forget.2.1 117 = .ok (.sipush 520, 3) := by decide +kernel
theorem dM_forget_120 : decode mM_forget.2.1 120 = .ok (.iload_n 3, 1) := by decide +kernel
theorem dM_forget_121 : decode mM_forget.2.1 121 = .ok (.imul, 1) := by decide +kernel
theorem dM_forget_122 : decode mM_forget.2.1 122 = .ok (.iload 4, 2) := by decide +kernel
theorem dM_forget_124 : decode mM_forget.2.1 124 = .ok (.iadd, 1) := by decide +kernel
theorem dM_forget_125 : decode mM_forget.2.1 125 = .ok (.iconst 1, 1) := by decide +kernel
theorem dM_forget_126 : decode mM_forget.2.1 126 = .ok (.iadd, 1) := by decide +kernel
theorem dM_forget_127 : decode mM_forget.2.1 127 = .ok (.laload, 1) := by decide +kernel
theorem dM_forget_128 : decode mM_forget.2.1 128 = .ok (.lastore, 1) := by decide +kernel
theorem dM_forget_129 : decode mM_forget.2.1 129 = .ok (.iinc 4 1, 3) := by decide +kernel
theorem dM_forget_132 : decode mM_forget.2.1 132 = .ok (.goto (-70), 3) := by decide +kernel
theorem dM_forget_135 : decode mM_forget.2.1 135 = .ok (.goto (-115), 3) := by decide +kernel
theorem dM_forget_138 : decode mM_forget.2.1 138 = .ok (.iinc 3 1, 3) := by decide +kernel
theorem dM_forget_141 : decode mM_forget.2.1 141 = .ok (.goto (-127), 3) := by decide +kernel
theorem dM_forget_144 : decode mM_forget.2.1 144 = .ok (.iload_n 1, 1) := by decide +kernel
theorem dM_forget_145 : decode mM_forget.2.1 145 = .ok (.ireturn, 1) := by decide +kernel
theorem dM_about_0 : decode mM_about.2.1 0 = .ok (.aload_n 0, 1) := by decide +kernel
theorem dM_about_1 : decode mM_about.2.1 1 = .ok (.iload_n 1, 1) := by decide +kernel
theorem dM_about_2 : decode mM_about.2.1 2 = .ok (.invokevirtual 52, 3) := by decide +kernel
theorem dM_about_5 : decode mM_about.2.1 5 = .ok (.ifCond .eq 5, 3) := by decide +kernel
theorem dM_about_8 : decode mM_about.2.1 8 = .ok (.iconst 0, 1) := by decide +kernel
theorem dM_about_9 : decode mM_about.2.1 9 = .ok (.ireturn, 1) := by decide +kernel
theorem dM_about_10 : decode mM_about.2.1 10 = .ok (.iload_n 2, 1) := by decide +kernel
theorem dM_about_11 : decode mM_about.2.1 11 = .ok (.tableswitch 108 0 5 #[37, 44, 51, 58, 64, 102], 37) := by decide +kernel
theorem dM_about_48 : decode mM_about.2.1 48 = .ok (.aload_n 0, 1) := by decide +kernel
theorem dM_about_49 : decode mM_about.2.1 49 = .ok (.getfield 19, 3) := by decide +kernel
theorem dM_about_52 : decode mM_about.2.1 52 = .ok (.iload_n 1, 1) := by decide +kernel
theorem dM_about_53 : decode mM_about.2.1 53 = .ok (.iaload, 1) := by decide +kernel
theorem dM_about_54 : decode mM_about.2.1 54 = .ok (.ireturn, 1) := by decide +kernel
theorem dM_about_55 : decode mM_about.2.1 55 = .ok (.aload_n 0, 1) := by decide +kernel
theorem dM_about_56 : decode mM_about.2.1 56 = .ok (.getfield 23, 3) := by decide +kernel
theorem dM_about_59 : decode mM_about.2.1 59 = .ok (.iload_n 1, 1) := by decide +kernel
theorem dM_about_60 : decode mM_about.2.1 60 = .ok (.iaload, 1) := by decide +kernel
theorem dM_about_61 : decode mM_about.2.1 61 = .ok (.ireturn, 1) := by decide +kernel
theorem dM_about_62 : decode mM_about.2.1 62 = .ok (.aload_n 0, 1) := by decide +kernel
theorem dM_about_63 : decode mM_about.2.1 63 = .ok (.getfield 26, 3) := by decide +kernel
theorem dM_about_66 : decode mM_about.2.1 66 = .ok (.iload_n 1, 1) := by decide +kernel
theorem dM_about_67 : decode mM_about.2.1 67 = .ok (.iaload, 1) := by decide +kernel
theorem dM_about_68 : decode mM_about.2.1 68 = .ok (.ireturn, 1) := by decide +kernel
theorem dM_about_69 : decode mM_about.2.1 69 = .ok (.aload_n 0, 1) := by decide +kernel
theorem dM_about_70 : decode mM_about.2.1 70 = .ok (.iload_n 1, 1) := by decide +kernel
theorem dM_about_71 : decode mM_about.2.1 71 = .ok (.invokevirtual 94, 3) := by decide +kernel
theorem dM_about_74 : decode mM_about.2.1 74 = .ok (.ireturn, 1) := by decide +kernel
theorem dM_about_75 : decode mM_about.2.1 75 = .ok (.iconst 0, 1) := by decide +kernel
theorem dM_about_76 : decode mM_about.2.1 76 = .ok (.istore_n 3, 1) := by decide +kernel
theorem dM_about_77 : decode mM_about.2.1 77 = .ok (.iconst 0, 1) := by decide +kernel
theorem dM_about_78 : decode mM_about.2.1 78 = .ok (.istore 4, 2) := by decide +kernel
theorem dM_about_80 : decode mM_about.2.1 80 = .ok (.iload 4, 2) := by decide +kernel
theorem dM_about_82 : decode mM_about.2.1 82 = .ok (.bipush 16, 2) := by decide +kernel
theorem dM_about_84 : decode mM_about.2.1 84 = .ok (.if_icmp .ge 27, 3) := by decide +kernel
theorem dM_about_87 : decode mM_about.2.1 87 = .ok (.aload_n 0, 1) := by decide +kernel
theorem dM_about_88 : decode mM_about.2.1 88 = .ok (.getfield 13, 3) := by decide +kernel
theorem dM_about_91 : decode mM_about.2.1 91 = .ok (.bipush 16, 2) := by decide +kernel
theorem dM_about_93 : decode mM_about.2.1 93 = .ok (.iload_n 1, 1) := by decide +kernel
theorem dM_about_94 : decode mM_about.2.1 94 = .ok (.imul, 1) := by decide +kernel
theorem dM_about_95 : decode mM_about.2.1 95 = .ok (.iload 4, 2) := by decide +kernel
theorem dM_about_97 : decode mM_about.2.1 97 = .ok (.iadd, 1) := by decide +kernel
theorem dM_about_98 : decode mM_about.2.1 98 = .ok (.baload, 1) := by decide +kernel
theorem dM_about_99 : decode mM_about.2.1 99 = .ok (.ifCond .eq 6, 3) := by decide +kernel
theorem dM_about_102 : decode mM_about.2.1 102 = .ok (.iinc 3 1, 3) := by decide +kernel
theorem dM_about_105 : decode mM_about.2.1 105 = .ok (.iinc 4 1, 3) := by decide +kernel
theorem dM_about_108 : decode mM_about.2.1 108 = .ok (.goto (-28), 3) := by decide +kernel
theorem dM_about_111 : decode mM_about.2.1 111 = .ok (.iload_n 3, 1) := by decide +kernel
theorem dM_about_112 : decode mM_about.2.1 112 = .ok (.ireturn, 1) := by decide +kernel
theorem dM_about_113 : decode mM_about.2.1 113 = .ok (.aload_n 0, 1) := by decide +kernel
theorem dM_about_114 : decode mM_about.2.1 114 = .ok (.iload_n 1, 1) := by decide +kernel
theorem dM_about_115 : decode mM_about.2.1 115 = .ok (.invokevirtual 91, 3) := by decide +kernel
theorem dM_about_118 : decode mM_about.2.1 118 = .ok (.ireturn, 1) := by decide +kernel
theorem dM_about_119 : decode mM_about.2.1 119 = .ok (.aload_n 0, 1) := by decide +kernel
theorem dM_about_120 : decode mM_about.2.1 120 = .ok (.iconst 2, 1) := by decide +kernel
theorem dM_about_121 : decode mM_about.2.1 121 = .ok (.invokevirtual 72, 3) := by decide +kernel
theorem dM_about_124 : decode mM_about.2.1 124 = .ok (.ireturn, 1) := by decide +kernel
theorem dM_count_0 : decode mM_count.2.1 0 = .ok (.aload_n 0, 1) := by decide +kernel
theorem dM_count_1 : decode mM_count.2.1 1 = .ok (.iconst 0, 1) := by decide +kernel
theorem dM_count_2 : decode mM_count.2.1 2 = .ok (.putfield 48, 3) := by decide +kernel
theorem dM_count_5 : decode mM_count.2.1 5 = .ok (.iconst 0, 1) := by decide +kernel
theorem dM_count_6 : decode mM_count.2.1 6 = .ok (.istore_n 2, 1) := by decide +kernel
theorem dM_count_7 : decode mM_count.2.1 7 = .ok (.iload_n 1, 1) := by decide +kernel
theorem dM_count_8 : decode mM_count.2.1 8 = .ok (.tableswitch 75 0 3 #[32, 37, 65, 70], 32) := by decide +kernel
theorem dM_count_40 : decode mM_count.2.1 40 = .ok (.aload_n 0, 1) := by decide +kernel
theorem dM_count_41 : decode mM_count.2.1 41 = .ok (.getfield 64, 3) := by decide +kernel
theorem dM_count_44 : decode mM_count.2.1 44 = .ok (.ireturn, 1) := by decide +kernel
theorem dM_count_45 : decode mM_count.2.1 45 = .ok (.iconst 0, 1) := by decide +kernel
theorem dM_count_46 : decode mM_count.2.1 46 = .ok (.istore_n 3, 1) := by decide +kernel
theorem dM_count_47 : decode mM_count.2.1 47 = .ok (.iload_n 3, 1) := by decide +kernel
theorem dM_count_48 : decode mM_count.2.1 48 = .ok (.bipush 16, 2) := by decide +kernel
theorem dM_count_50 : decode mM_count.2.1 50 = .ok (.if_icmp .ge 21, 3) := by decide +kernel
theorem dM_count_53 : decode mM_count.2.1 53 = .ok (.aload_n 0, 1) := by decide +kernel
theorem dM_count_54 : decode mM_count.2.1 54 = .ok (.getfield 9, 3) := by decide +kernel
theorem dM_count_57 : decode mM_count.2.1 57 = .ok (.iload_n 3, 1) := by decide +kernel
theorem dM_count_58 : decode mM_count.2.1 58 = .ok (.baload, 1) := by decide +kernel
theorem dM_count_59 : decode mM_count.2.1 59 = .ok (.ifCond .eq 6, 3) := by decide +kernel
theorem dM_count_62 : decode mM_count.2.1 62 = .ok (.iinc 2 1, 3) := by decide +kernel
theorem dM_count_65 : decode mM_count.2.1 65 = .ok (.iinc 3 1, 3) := by decide +kernel
theorem dM_count_68 : decode mM_count.2.1 68 = .ok (.goto (-21), 3) := by decide +kernel
theorem dM_count_71 : decode mM_count.2.1 71 = .ok (.iload_n 2, 1) := by decide +kernel
theorem dM_count_72 : decode mM_count.2.1 72 = .ok (.ireturn, 1) := by decide +kernel
theorem dM_count_73 : decode mM_count.2.1 73 = .ok (.aload_n 0, 1) := by decide +kernel
theorem dM_count_74 : decode mM_count.2.1 74 = .ok (.invokevirtual 97, 3) := by decide +kernel
theorem dM_count_77 : decode mM_count.2.1 77 = .ok (.ireturn, 1) := by decide +kernel
theorem dM_count_78 : decode mM_count.2.1 78 = .ok (.aload_n 0, 1) := by decide +kernel
theorem dM_count_79 : decode mM_count.2.1 79 = .ok (.invokevirtual 101, 3) := by decide +kernel
theorem dM_count_82 : decode mM_count.2.1 82 = .ok (.ireturn, 1) := by decide +kernel
theorem dM_count_83 : decode mM_count.2.1 83 = .ok (.iconst (-1), 1) := by decide +kernel
theorem dM_count_84 : decode mM_count.2.1 84 = .ok (.ireturn, 1) := by decide +kernel
