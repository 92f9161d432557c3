import java.util.ArrayList;
import java.util.List;
import java.util.NoSuchElementException;
import java.util.Set;
import java.util.TreeMap;
import java.util.TreeSet;
import java.util.stream.IntStream;

/**
 * The document's words turned into the plainest program, by other means than VersionDesk (nothing
 * is thrown away, everything is looked up anew), to hold VersionDesk's answers against.
 */
final class PlainDesk {
    private static final class Open {
        final int start;
        final int kind;
        final List<TreeMap<Integer, Long>> layers = new ArrayList<>(List.of(new TreeMap<>()));
        final Set<Integer> saw = new TreeSet<>();

        Open(int start, int kind) {
            this.start = start;
            this.kind = kind;
        }

        TreeMap<Integer, Long> wrote() {
            TreeMap<Integer, Long> all = new TreeMap<>();
            layers.forEach(all::putAll);
            return all;
        }

        TreeMap<Integer, Long> highest() {
            return layers.get(layers.size() - 1);
        }

        boolean canBeSpoiledBy(int cell) {
            return wrote().containsKey(cell) || kind == 1 && saw.contains(cell);
        }
    }

    private static final class Version {
        final int clock;
        final long what;
        boolean forgotten = false;

        Version(int clock, long what) {
            this.clock = clock;
            this.what = what;
        }
    }

    private final TreeMap<Integer, Open> open = new TreeMap<>();
    private final List<List<Version>> versions = new ArrayList<>();
    private int clock = 0;

    PlainDesk() {
        for (int cell = 0; cell < 16; cell++) {
            versions.add(new ArrayList<>(List.of(new Version(0, 0))));
        }
    }

    int begin(int kind) {
        if (kind < 0 || kind > 1) {
            throw new IllegalArgumentException();
        }
        int t = IntStream.range(0, 16).filter(n -> !open.containsKey(n)).findFirst()
            .orElseThrow(IllegalStateException::new);
        open.put(t, new Open(clock, kind));
        return t;
    }

    long read(int t, int cell) {
        Open one = one(t);
        long reading = reading(one, checked(cell));
        if (!one.wrote().containsKey(cell)) {
            one.saw.add(cell);
        }
        return reading;
    }

    long write(int t, int cell, long v) {
        Open one = one(t);
        long reading = reading(one, checked(cell));
        one.highest().put(cell, v);
        return reading;
    }

    int push(int t) {
        Open one = one(t);
        require(one.layers.size() < 8);
        one.layers.add(new TreeMap<>());
        return one.layers.size();
    }

    int pop(int t, boolean keep) {
        Open one = one(t);
        require(one.layers.size() > 1);
        TreeMap<Integer, Long> gone = one.layers.remove(one.layers.size() - 1);
        if (keep) {
            one.highest().putAll(gone);
        }
        return one.layers.size();
    }

    int commit(int t) {
        Open one = one(t);
        if (spoiled(t)) {
            open.remove(t);
            return -1;
        }
        TreeMap<Integer, Long> wrote = one.wrote();
        require(count(2) + wrote.size() <= 500);
        if (!wrote.isEmpty()) {
            clock++;
            wrote.forEach((cell, v) -> versions.get(cell).add(new Version(clock, v)));
        }
        open.remove(t);
        return clock;
    }

    int drop(int t) {
        int wrote = one(t).wrote().size();
        open.remove(t);
        return wrote;
    }

    boolean spoiled(int t) {
        return about(t, 5) > 0;
    }

    boolean meets(int a, int b) {
        Open first = one(a);
        Open second = one(b);
        return a != b && first.wrote().keySet().stream()
            .anyMatch(cell -> second.canBeSpoiledBy(cell) && !isSpoiled(second, cell));
    }

    long past(int cell, int at) {
        checked(cell);
        if (at < 0 || at > clock || versionAt(cell, at).forgotten) {
            throw new NoSuchElementException();
        }
        return versionAt(cell, at).what;
    }

    int forget() {
        int floor = count(3);
        int before = count(2);
        for (List<Version> ofCell : versions) {
            for (Version version : ofCell) {
                version.forgotten |= ofCell.stream()
                    .anyMatch(other -> other.clock > version.clock && other.clock <= floor);
            }
        }
        return before - count(2);
    }

    int about(int t, int what) {
        Open one = one(t);
        switch (what) {
            case 0: return one.start;
            case 1: return one.kind;
            case 2: return one.layers.size();
            case 3: return one.wrote().size();
            case 4: return one.saw.size();
            case 5: return (int) IntStream.range(0, 16).filter(cell -> isSpoiled(one, cell)).count();
            default: throw new IllegalArgumentException();
        }
    }

    int count(int what) {
        switch (what) {
            case 0: return clock;
            case 1: return open.size();
            case 2: return (int) versions.stream().flatMap(List::stream).filter(v -> !v.forgotten).count();
            case 3: return open.values().stream().mapToInt(one -> one.start).min().orElse(clock);
            default: return -1;
        }
    }

    private Open one(int t) {
        if (!open.containsKey(t)) {
            throw new NoSuchElementException();
        }
        return open.get(t);
    }

    private static int checked(int cell) {
        if (cell < 0 || cell > 15) {
            throw new NoSuchElementException();
        }
        return cell;
    }

    private static void require(boolean holds) {
        if (!holds) {
            throw new IllegalStateException();
        }
    }

    private long reading(Open one, int cell) {
        Long own = one.wrote().get(cell);
        return own != null ? own : past(cell, one.start);
    }

    private boolean isSpoiled(Open one, int cell) {
        return one.canBeSpoiledBy(cell) && versions.get(cell).stream().anyMatch(v -> v.clock > one.start);
    }

    private Version versionAt(int cell, int at) {
        Version found = null;
        for (Version version : versions.get(cell)) {
            if (version.clock <= at) {
                found = version;
            }
        }
        return found;
    }
}
