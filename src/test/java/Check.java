/** Counts and prints the answers that are not due. */
final class Check {
    static final String NO_FILE = "throws.IndexOutOfBoundsException";
    static final String NO_ARGUMENT = "throws.IllegalArgumentException";
    static final String NO_STATE = "throws.IllegalStateException";

    private static final int NEXTS = 140;

    interface Call {
        Object answer();
    }

    /** Makes an object, each time one in the same state. */
    interface Maker {
        MoraineSort make();
    }

    /** A call on an object that is told. */
    interface Use {
        Object of(MoraineSort x);
    }

    private static int wrong = 0;

    private Check() {
    }

    /** What the call answers, or "throws." and the exception's name. */
    static String said(Call call) {
        try {
            return String.valueOf(call.answer());
        } catch (RuntimeException e) {
            return "throws." + e.getClass().getSimpleName();
        }
    }

    static void due(String what, Object want, Call call) {
        String got = said(call);
        if (!got.equals(String.valueOf(want))) {
            wrong++;
            System.out.println(what + " answered " + got + ", due is " + want);
        }
    }

    static void noFile(String what, Call call) {
        due(what, NO_FILE, call);
    }

    static void noArgument(String what, Call call) {
        due(what, NO_ARGUMENT, call);
    }

    static void noState(String what, Call call) {
        due(what, NO_STATE, call);
    }

    /** The call throws this; then the object goes on as its twin does, which did not get it. */
    static void refused(String what, String exception, Maker maker, Use call) {
        MoraineSort x = maker.make();
        due(what, exception, () -> call.of(x));
        goesOnAs(what + ": nothing is changed", maker.make(), x);
    }

    /** The call answers this; then the object goes on as its twin does, which did not get it. */
    static void onlyAsks(String what, Object want, Maker maker, Use call) {
        MoraineSort x = maker.make();
        due(what, want, () -> call.of(x));
        goesOnAs(what + ": nothing is changed, nor counted", maker.make(), x);
    }

    private static void goesOnAs(String what, MoraineSort twin, MoraineSort x) {
        String want = courseOf(twin);
        due(what, true, () -> courseOf(x).equals(want));
    }

    /** All that an object tells, and does from now on: also what no single call tells. */
    private static String courseOf(MoraineSort x) {
        StringBuilder all = new StringBuilder(stateOf(x));
        for (int i = 0; i < NEXTS; i++) {
            all.append(' ').append(said(() -> x.next()));
        }
        all.append(' ').append(stateOf(x));
        all.append(' ').append(said(() -> x.addFile()));
        all.append(' ').append(stateOf(x));
        all.append(' ').append(said(() -> x.setMemory(4, 4)));
        return all.toString();
    }

    /** All that an object tells, so that two states can be compared. */
    static String stateOf(MoraineSort x) {
        StringBuilder all = new StringBuilder();
        all.append(x.digest()).append(' ').append(x.spilt()).append(' ').append(x.matches());
        all.append(' ').append(said(() -> x.winner()));
        for (int node = 1; node < 8; node++) {
            int at = node;
            all.append(' ').append(said(() -> x.loser(at)));
        }
        return all.toString();
    }

    /** The keys of a file, and with marks behind a colon if that is asked. */
    static String rowOf(MoraineSort x, int file, boolean withMarks) {
        StringBuilder row = new StringBuilder();
        for (int place = 0; place < x.size(file); place++) {
            row.append(place == 0 ? "" : " ").append(x.at(file, place, false));
            if (withMarks) {
                row.append(':').append(x.at(file, place, true));
            }
        }
        return row.toString();
    }

    /** The sizes of the runs of the latest sort. */
    static String runsOf(MoraineSort x) {
        StringBuilder all = new StringBuilder();
        for (int run = 0; run < x.runs(); run++) {
            all.append(run == 0 ? "" : " ").append(x.runSize(run));
        }
        return all.toString();
    }

    /** The merges of the latest sort: of how many runs each was, and how many records it made. */
    static String mergesOf(MoraineSort x) {
        StringBuilder all = new StringBuilder();
        for (int merge = 0; merge < x.merges(); merge++) {
            all.append(merge == 0 ? "" : " ").append(x.merge(merge, 0)).append('>')
                    .append(x.merge(merge, 1));
        }
        return all.toString();
    }

    /** The pages that were read, written and spilt. */
    static String countsOf(MoraineSort x) {
        return x.read() + " " + x.written() + " " + x.spilt();
    }

    /** Adds a file with these keys, and the marks from 0 on. */
    static int fileOf(MoraineSort x, int... keys) {
        int file = x.addFile();
        for (int place = 0; place < keys.length; place++) {
            x.put(file, keys[place], place);
        }
        return file;
    }

    /** Adds a file with so many records with this key. */
    static int sameOf(MoraineSort x, int key, int count) {
        int file = x.addFile();
        for (int place = 0; place < count; place++) {
            x.put(file, key, place);
        }
        return file;
    }

    static void end(String test) {
        System.out.println(test + ": " + (wrong == 0 ? "all answers are as due"
                : wrong + " answers are not as due"));
        if (wrong != 0) {
            System.exit(1);
        }
    }
}
