import java.util.NoSuchElementException;

/**
 * Cells that are read and written in transactions. The document's words in capitals are used here
 * in small letters; a set of cells is an int whose bit n stands for cell n.
 */
public final class VersionDesk {
    private static final int CELLS = 16;
    private static final int TRANSACTIONS = 16;
    private static final int MOST_LAYERS = 8;
    private static final int MOST_VERSIONS = 500;
    private static final int PLAIN_KIND = 0;
    private static final int WATCHING_KIND = 1;

    private final Transaction[] transactions;
    private final Versions versions;
    private int clock;

    public VersionDesk() {
        transactions = new Transaction[TRANSACTIONS];
        for (int t = 0; t < TRANSACTIONS; t++) {
            transactions[t] = new Transaction();
        }
        versions = new Versions();
        clock = 0;
    }

    public int begin(int kind) throws IllegalArgumentException, IllegalStateException {
        if (kind != PLAIN_KIND && kind != WATCHING_KIND) {
            throw new IllegalArgumentException();
        }
        int t = leastNotOpen();
        if (t >= TRANSACTIONS) {
            throw new IllegalStateException();
        }
        transactions[t].open(clock, kind);
        return t;
    }

    public long read(int t, int cell) throws NoSuchElementException {
        Transaction one = openOne(t);
        requireCell(cell);
        if (one.layerThatWrote(cell) < 0) {
            one.see(cell);
        }
        return reading(one, cell);
    }

    public long write(int t, int cell, long v) throws NoSuchElementException {
        Transaction one = openOne(t);
        requireCell(cell);
        long before = reading(one, cell);
        one.put(cell, v);
        return before;
    }

    public int push(int t) throws NoSuchElementException, IllegalStateException {
        Transaction one = openOne(t);
        if (one.layers() >= MOST_LAYERS) {
            throw new IllegalStateException();
        }
        one.addLayer();
        return one.layers();
    }

    public int pop(int t, boolean keep) throws NoSuchElementException, IllegalStateException {
        Transaction one = openOne(t);
        if (one.layers() <= 1) {
            throw new IllegalStateException();
        }
        if (keep) {
            one.copyHighestLayerDown();
        }
        one.removeLayer();
        return one.layers();
    }

    public int commit(int t) throws NoSuchElementException, IllegalStateException {
        Transaction one = openOne(t);
        if (spoiledCells(one) != 0) {
            one.close();
            return -1;
        }
        int written = one.written();
        if (!versions.haveRoomFor(Integer.bitCount(written))) {
            throw new IllegalStateException();
        }
        if (written != 0) {
            clock++;
            keepVersions(one, written);
        }
        one.close();
        return clock;
    }

    public int drop(int t) throws NoSuchElementException {
        Transaction one = openOne(t);
        one.close();
        return Integer.bitCount(one.written());
    }

    public boolean spoiled(int t) throws NoSuchElementException {
        return spoiledCells(openOne(t)) != 0;
    }

    public boolean meets(int a, int b) throws NoSuchElementException {
        Transaction first = openOne(a);
        Transaction second = openOne(b);
        if (a == b) {
            return false;
        }
        // The document asks as if a's commit did write, so that a itself is spoiled plays no part.
        int wouldSpoil = first.written() & second.heeded();
        return (wouldSpoil & ~spoiledCells(second)) != 0;
    }

    public long past(int cell, int clock) throws NoSuchElementException {
        requireCell(cell);
        if (clock < 0 || clock > this.clock || !versions.know(cell, clock)) {
            throw new NoSuchElementException();
        }
        return versions.valueAt(cell, clock);
    }

    public int forget() {
        return versions.removeCovered(floor());
    }

    public int about(int t, int what) throws NoSuchElementException, IllegalArgumentException {
        Transaction one = openOne(t);
        switch (what) {
            case 0:
                return one.start();
            case 1:
                return one.kind();
            case 2:
                return one.layers();
            case 3:
                return Integer.bitCount(one.written());
            case 4:
                return Integer.bitCount(one.seen());
            case 5:
                return Integer.bitCount(spoiledCells(one));
            default:
                throw new IllegalArgumentException();
        }
    }

    public int count(int what) {
        switch (what) {
            case 0:
                return clock;
            case 1:
                return howManyOpen();
            case 2:
                return versions.size();
            case 3:
                return floor();
            default:
                return -1;
        }
    }

    private Transaction openOne(int t) throws NoSuchElementException {
        if (t < 0 || t >= TRANSACTIONS || !transactions[t].isOpen()) {
            throw new NoSuchElementException();
        }
        return transactions[t];
    }

    private static void requireCell(int cell) throws NoSuchElementException {
        if (cell < 0 || cell >= CELLS) {
            throw new NoSuchElementException();
        }
    }

    private int leastNotOpen() {
        int t = 0;
        while (t < TRANSACTIONS && transactions[t].isOpen()) {
            t++;
        }
        return t;
    }

    private int howManyOpen() {
        int open = 0;
        for (int t = 0; t < TRANSACTIONS; t++) {
            if (transactions[t].isOpen()) {
                open++;
            }
        }
        return open;
    }

    private int floor() {
        int least = clock;
        for (int t = 0; t < TRANSACTIONS; t++) {
            if (transactions[t].isOpen()) {
                least = Math.min(least, transactions[t].start());
            }
        }
        return least;
    }

    private long reading(Transaction one, int cell) {
        int layer = one.layerThatWrote(cell);
        if (layer >= 0) {
            return one.valueIn(layer, cell);
        }
        return versions.valueAt(cell, one.start());
    }

    private int spoiledCells(Transaction one) {
        return one.heeded() & versions.cellsWrittenAfter(one.start());
    }

    private void keepVersions(Transaction one, int written) {
        for (int cell = 0; cell < CELLS; cell++) {
            if ((written & 1 << cell) != 0) {
                versions.append(cell, clock, reading(one, cell));
            }
        }
    }

    /** One number's transaction; its rows are made once and used again by each that bears the number. */
    private static final class Transaction {
        private boolean open;
        private int start;
        private int kind;
        private int layers;
        private int seen;
        private final int[] wrote;
        private final long[][] values;

        Transaction() {
            open = false;
            layers = 1;
            wrote = new int[MOST_LAYERS];
            values = new long[MOST_LAYERS][CELLS];
        }

        void open(int clock, int ofKind) {
            open = true;
            start = clock;
            kind = ofKind;
            layers = 1;
            seen = 0;
            wrote[0] = 0;
        }

        void close() {
            open = false;
        }

        boolean isOpen() {
            return open;
        }

        int start() {
            return start;
        }

        int kind() {
            return kind;
        }

        int layers() {
            return layers;
        }

        int seen() {
            return seen;
        }

        void see(int cell) {
            seen |= 1 << cell;
        }

        int written() {
            int cells = 0;
            for (int layer = 0; layer < layers; layer++) {
                cells |= wrote[layer];
            }
            return cells;
        }

        /** The cells that a commit of another one can spoil. */
        int heeded() {
            return kind == WATCHING_KIND ? written() | seen : written();
        }

        /** The highest layer that wrote the cell, -1 if none did. */
        int layerThatWrote(int cell) {
            int layer = layers - 1;
            while (layer >= 0 && (wrote[layer] & 1 << cell) == 0) {
                layer--;
            }
            return layer;
        }

        long valueIn(int layer, int cell) {
            return values[layer][cell];
        }

        void put(int cell, long v) {
            putIn(layers - 1, cell, v);
        }

        void addLayer() {
            if (layers < MOST_LAYERS) {
                // The row may hold what a layer that went had written.
                wrote[layers] = 0;
                layers++;
            }
        }

        void removeLayer() {
            if (layers > 1) {
                layers--;
            }
        }

        void copyHighestLayerDown() {
            int highest = layers - 1;
            for (int cell = 0; highest > 0 && cell < CELLS; cell++) {
                if ((wrote[highest] & 1 << cell) != 0) {
                    putIn(highest - 1, cell, values[highest][cell]);
                }
            }
        }

        private void putIn(int layer, int cell, long v) {
            wrote[layer] |= 1 << cell;
            values[layer][cell] = v;
        }
    }

    /** The versions of all cells in one row, by rising clock. */
    private static final class Versions {
        private final int[] cells;
        private final int[] clocks;
        private final long[] values;
        private int size;

        Versions() {
            cells = new int[MOST_VERSIONS];
            clocks = new int[MOST_VERSIONS];
            values = new long[MOST_VERSIONS];
            for (int cell = 0; cell < CELLS; cell++) {
                cells[cell] = cell;
            }
            size = CELLS;
        }

        int size() {
            return size;
        }

        boolean haveRoomFor(int more) {
            return size + more <= MOST_VERSIONS;
        }

        void append(int cell, int clock, long v) {
            if (size < MOST_VERSIONS) {
                cells[size] = cell;
                clocks[size] = clock;
                values[size] = v;
                size++;
            }
        }

        boolean know(int cell, int clock) {
            return indexAt(cell, clock) >= 0;
        }

        /** What the cell was at the clock; 0 where that is forgotten. */
        long valueAt(int cell, int clock) {
            int i = indexAt(cell, clock);
            return i >= 0 ? values[i] : 0L;
        }

        int cellsWrittenAfter(int clock) {
            int written = 0;
            for (int i = size - 1; i >= 0 && clocks[i] > clock; i--) {
                written |= 1 << cells[i];
            }
            return written;
        }

        /**
         * Removes each version that has a newer one of its cell not above the floor; answers how
         * many. Going from the newest to the oldest, one pass knows which cells have such a one.
         */
        int removeCovered(int floor) {
            int covered = 0;
            int kept = size;
            for (int i = size - 1; i >= 0; i--) {
                int cell = 1 << cells[i];
                if ((covered & cell) == 0) {
                    kept--;
                    move(i, kept);
                    if (clocks[kept] <= floor) {
                        covered |= cell;
                    }
                }
            }
            for (int i = kept; i < size; i++) {
                move(i, i - kept);
            }
            size -= kept;
            return kept;
        }

        private int indexAt(int cell, int clock) {
            int i = size - 1;
            while (i >= 0 && (cells[i] != cell || clocks[i] > clock)) {
                i--;
            }
            return i;
        }

        private void move(int from, int to) {
            cells[to] = cells[from];
            clocks[to] = clocks[from];
            values[to] = values[from];
        }
    }
}
