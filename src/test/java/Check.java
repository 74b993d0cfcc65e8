/** Counts and prints the answers that are not due. */
final class Check {
    interface Call {
        Object answer();
    }

    private static int wrong = 0;

    private Check() {
    }

    /** What the call answers, or "throws." and the exception's name. */
    static String said(Call call) {
        try {
            return String.valueOf(call.answer());
        } catch (RuntimeException e) {
            return "throws." + e.getClass().getSimpleName();
        }
    }

    static void due(String what, Object want, Call call) {
        String got = said(call);
        if (!got.equals(String.valueOf(want))) {
            wrong++;
            System.out.println(what + " answered " + got + ", due is " + want);
        }
    }

    static void noFile(String what, Call call) {
        due(what, "throws.IndexOutOfBoundsException", call);
    }

    static void noArgument(String what, Call call) {
        due(what, "throws.IllegalArgumentException", call);
    }

    static void noState(String what, Call call) {
        due(what, "throws.IllegalStateException", call);
    }

    /** All that an object tells, so that two states can be compared. */
    static String stateOf(MoraineSort x) {
        StringBuilder all = new StringBuilder();
        all.append(x.digest()).append(' ').append(x.spilt()).append(' ').append(x.matches());
        all.append(' ').append(said(() -> x.winner()));
        for (int node = 1; node < 8; node++) {
            int at = node;
            all.append(' ').append(said(() -> x.loser(at)));
        }
        return all.toString();
    }

    /** The keys of a file, and with marks behind a colon if that is asked. */
    static String rowOf(MoraineSort x, int file, boolean withMarks) {
        StringBuilder row = new StringBuilder();
        for (int place = 0; place < x.size(file); place++) {
            row.append(place == 0 ? "" : " ").append(x.at(file, place, false));
            if (withMarks) {
                row.append(':').append(x.at(file, place, true));
            }
        }
        return row.toString();
    }

    /** Adds a file with these keys, and the marks from 0 on. */
    static int fileOf(MoraineSort x, int... keys) {
        int file = x.addFile();
        for (int place = 0; place < keys.length; place++) {
            x.put(file, keys[place], place);
        }
        return file;
    }

    static void end(String test) {
        System.out.println(test + ": " + (wrong == 0 ? "all answers are as due"
                : wrong + " answers are not as due"));
        if (wrong != 0) {
            System.exit(1);
        }
    }
}
