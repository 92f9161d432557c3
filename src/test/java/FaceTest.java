import java.lang.reflect.Constructor;
import java.lang.reflect.Field;
import java.lang.reflect.Method;
import java.lang.reflect.Modifier;
import java.util.Arrays;
import java.util.Set;
import java.util.TreeSet;
import java.util.stream.Collectors;

/** The class has the document's face and shows nothing else (rules 1 and 5 of LANGUAGE.md). */
public final class FaceTest {
    private static final Set<String> FACE = Set.of(
        "public VersionDesk()",
        "public int VersionDesk.begin(int) throws java.lang.IllegalArgumentException,java.lang.IllegalStateException",
        "public long VersionDesk.read(int,int) throws java.util.NoSuchElementException",
        "public long VersionDesk.write(int,int,long) throws java.util.NoSuchElementException",
        "public int VersionDesk.push(int) throws java.util.NoSuchElementException,java.lang.IllegalStateException",
        "public int VersionDesk.pop(int,boolean) throws java.util.NoSuchElementException,java.lang.IllegalStateException",
        "public int VersionDesk.commit(int) throws java.util.NoSuchElementException,java.lang.IllegalStateException",
        "public int VersionDesk.drop(int) throws java.util.NoSuchElementException",
        "public boolean VersionDesk.spoiled(int) throws java.util.NoSuchElementException",
        "public boolean VersionDesk.meets(int,int) throws java.util.NoSuchElementException",
        "public long VersionDesk.past(int,int) throws java.util.NoSuchElementException",
        "public int VersionDesk.forget()",
        "public int VersionDesk.about(int,int) throws java.util.NoSuchElementException,java.lang.IllegalArgumentException",
        "public int VersionDesk.count(int)");

    private static int wrong = 0;

    public static void main(String[] args) {
        check(Modifier.isPublic(VersionDesk.class.getModifiers()), "the class is public");
        check(Modifier.isFinal(VersionDesk.class.getModifiers()), "the class is final");
        check(shownMembers().equals(FACE), "the members that are not private are the face: " + shownMembers());
        for (Field field : VersionDesk.class.getDeclaredFields()) {
            check(Modifier.isPrivate(field.getModifiers()), "private: " + field);
            check(!Modifier.isStatic(field.getModifiers()) || Modifier.isFinal(field.getModifiers()),
                "shared by all objects, so never changed: " + field);
        }
        checkPrivateNames();
        System.out.println(wrong == 0 ? "the face is the document's" : wrong + " things are wrong with the face");
        System.exit(wrong == 0 ? 0 : 1);
    }

    private static Set<String> shownMembers() {
        Set<String> shown = new TreeSet<>();
        for (Constructor<?> constructor : VersionDesk.class.getDeclaredConstructors()) {
            shown.add(constructor.toString());
        }
        for (Method method : VersionDesk.class.getDeclaredMethods()) {
            if (!Modifier.isPrivate(method.getModifiers())) {
                shown.add(method.toString());
            }
        }
        return shown;
    }

    private static void checkPrivateNames() {
        Set<String> shown = Arrays.stream(VersionDesk.class.getDeclaredMethods())
            .filter(method -> Modifier.isPublic(method.getModifiers()))
            .map(Method::getName)
            .collect(Collectors.toSet());
        for (Method method : VersionDesk.class.getDeclaredMethods()) {
            boolean hidden = Modifier.isPrivate(method.getModifiers());
            check(!hidden || !shown.contains(method.getName()), "no public method's name: " + method);
        }
    }

    private static void check(boolean holds, String what) {
        if (!holds) {
            wrong++;
            System.out.println("not so: " + what);
        }
    }
}
