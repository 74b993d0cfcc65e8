/** Objects in a state from which the tests of bounds start; each call makes a new one. */
final class Given {
    /** The files of {@link #some}. */
    static final int UP = 0;
    static final int OTHER_UP = 1;
    static final int NEITHER = 2;
    static final int FULL = 3;
    static final int EMPTY = 4;
    static final int SAME = 5;
    static final int SORTED = 6;
    static final int JOINED = 7;
    static final int FILES = 8;
    /** Its latest sort had 20 runs, and 19 merges. */
    static final int RUNS = 20;
    static final int MERGES = 19;
    /** What is no file of it, or of any; two of them just outside. */
    static final int[] NO_FILES = {-1, FILES, Integer.MIN_VALUE, Integer.MAX_VALUE};

    private Given() {
    }

    static MoraineSort nothing() {
        return new MoraineSort();
    }

    /** One with all that can be changed by mistake: pages counted and spilt, runs, a tournament. */
    static MoraineSort some() {
        MoraineSort x = new MoraineSort();
        x.setMemory(2, 3);
        Check.fileOf(x, 1, 3, 3, 5);
        Check.fileOf(x, 2, 3, 3, 3, 6);
        Check.fileOf(x, 4, 1, 9, 2);
        x.addFile();
        x.putRow(FULL, 119, -1, 999, 120);
        x.addFile();
        x.addFile();
        x.putRow(SAME, 5, 0, 999, 11);
        x.sort(FULL, true, true, false);
        x.join(UP, OTHER_UP, 0);
        x.begin(UP, 2);
        x.next();
        return x;
    }

    /** The same one, with four files more that have no records. */
    static MoraineSort twelve() {
        MoraineSort x = some();
        for (int file = FILES; file < 12; file++) {
            x.addFile();
        }
        return x;
    }

    /** The same one, where the tournament has ended. */
    static MoraineSort ended() {
        MoraineSort x = some();
        x.put(UP, 5, 0);
        return x;
    }

    /** An object with so many files that have no records. */
    static MoraineSort empties(int files) {
        MoraineSort x = new MoraineSort();
        for (int file = 0; file < files; file++) {
            x.addFile();
        }
        return x;
    }

    /** An object with one file, which has this row. */
    static MoraineSort row(int page, int memory, int first, int step, int count) {
        MoraineSort x = new MoraineSort();
        x.setMemory(page, memory);
        x.addFile();
        x.putRow(0, first, step, 999, count);
        return x;
    }

    /** An object with one file, in which each key is one less than the one ahead, down to 1. */
    static MoraineSort falling(int page, int memory, int count) {
        return row(page, memory, count, -1, count);
    }
}
