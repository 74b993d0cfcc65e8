/**
 * Each call that throws, promise by promise: just outside each bound and far from it, which
 * exception is thrown if several apply, and that nothing is changed by it.
 */
public final class RefusalsTest {
    private static final int[] FAR = {Integer.MIN_VALUE, Integer.MAX_VALUE};

    public static void main(String[] args) {
        givenIsAsItSays();
        noFileOnANewObject();
        promise2();
        promise3();
        promise4();
        promise5();
        promise5IfSeveralApply();
        promise6();
        promises8And10To13();
        promise9();
        promise17();
        promise19();
        promise21();
        promise22Files();
        promise22Count();
        promise22Up();
        promise22IfSeveralApply();
        promises23And24();
        promise25();
        promise27();
        promise27IfSeveralApply();
        promise28();
        promise29();
        promise30();
        promise31();
        promises32And33();
        Check.end("RefusalsTest");
    }

    private static void file(String what, Check.Use call) {
        Check.refused(what, Check.NO_FILE, Given::some, call);
    }

    private static void argument(String what, Check.Use call) {
        Check.refused(what, Check.NO_ARGUMENT, Given::some, call);
    }

    private static void state(String what, Check.Use call) {
        Check.refused(what, Check.NO_STATE, Given::some, call);
    }

    private static void fileOfTwelve(String what, Check.Use call) {
        Check.refused(what, Check.NO_FILE, Given::twelve, call);
    }

    private static void argumentOfTwelve(String what, Check.Use call) {
        Check.refused(what, Check.NO_ARGUMENT, Given::twelve, call);
    }

    private static void stateOfTwelve(String what, Check.Use call) {
        Check.refused(what, Check.NO_STATE, Given::twelve, call);
    }

    private static void fileOfNothing(String what, Check.Use call) {
        Check.refused(what, Check.NO_FILE, Given::nothing, call);
    }

    /** Otherwise "nothing is changed" would say less than it seems to. */
    private static void givenIsAsItSays() {
        MoraineSort x = Given.some();
        Check.due("given files", Given.FILES, () -> x.files());
        Check.due("given orders", "1 1 0 2 3 3 1 3", () -> ordersOf(x));
        Check.due("given sizes", "4 5 4 120 0 11 120 6", () -> sizesOf(x));
        Check.due("given runs", Given.RUNS, () -> x.runs());
        Check.due("given merges", Given.MERGES, () -> x.merges());
        Check.due("given counts", "333 329 2", () -> Check.countsOf(x));
        Check.due("given matches", 2, () -> x.matches());
        Check.due("given memory", 3, () -> x.setMemory(2, 3));
        Check.due("given twelve", 12, () -> Given.twelve().files());
        Check.due("given ended", 0, () -> Given.ended().matches());
    }

    private static String ordersOf(MoraineSort x) {
        StringBuilder all = new StringBuilder();
        for (int file = 0; file < x.files(); file++) {
            all.append(file == 0 ? "" : " ").append(x.order(file));
        }
        return all.toString();
    }

    private static String sizesOf(MoraineSort x) {
        StringBuilder all = new StringBuilder();
        for (int file = 0; file < x.files(); file++) {
            all.append(file == 0 ? "" : " ").append(x.size(file));
        }
        return all.toString();
    }

    private static void noFileOnANewObject() {
        fileOfNothing("4 no file", x -> x.put(0, 0, 0));
        fileOfNothing("5 no file", x -> x.putRow(0, 0, 0, 1, 1));
        fileOfNothing("8 no file", x -> x.size(0));
        fileOfNothing("9 no file", x -> x.at(0, 0, false));
        fileOfNothing("10 no file", x -> x.pages(0));
        fileOfNothing("11 no file", x -> x.order(0));
        fileOfNothing("12 no file", x -> x.distinct(0));
        fileOfNothing("13 no file", x -> x.inversions(0));
        fileOfNothing("17 no file", x -> x.sort(0, true, true, true));
        fileOfNothing("19 no run", x -> x.runSize(0));
        fileOfNothing("21 no merge", x -> x.merge(0, 0));
        fileOfNothing("22 no file", x -> x.begin(0, 2));
        fileOfNothing("27 no file", x -> x.join(0, 0, 0));
        fileOfNothing("28 no file", x -> x.split(0, 0));
        fileOfNothing("29 no file", x -> x.group(0, 0));
        fileOfNothing("30 no file", x -> x.sortCost(0, true, true, 3));
        fileOfNothing("31 no file", x -> x.memoryFor(0, true, 0));
        fileOfNothing("32 no file", x -> x.splitCost(0, 0));
        fileOfNothing("33 no file", x -> x.share(0, 0));
    }

    private static void promise2() {
        argument("2 page one below", x -> x.setMemory(1, 5));
        argument("2 page one above", x -> x.setMemory(11, 5));
        argument("2 page 0", x -> x.setMemory(0, 5));
        argument("2 memory one below", x -> x.setMemory(5, 2));
        argument("2 memory one above", x -> x.setMemory(5, 13));
        argument("2 memory 0", x -> x.setMemory(5, 0));
        argument("2 both", x -> x.setMemory(11, 13));
        for (int far : FAR) {
            argument("2 page far", x -> x.setMemory(far, 5));
            argument("2 memory far", x -> x.setMemory(5, far));
        }
    }

    private static void promise3() {
        stateOfTwelve("3 there are 12", x -> x.addFile());
        Check.refused("3 there are 12 without records", Check.NO_STATE, () -> Given.empties(12),
                x -> x.addFile());
    }

    private static void promise4() {
        for (int none : Given.NO_FILES) {
            file("4 file " + none, x -> x.put(none, 0, 0));
        }
        argument("4 key one below", x -> x.put(Given.UP, -1000, 0));
        argument("4 key one above", x -> x.put(Given.UP, 1000, 0));
        argument("4 mark one below", x -> x.put(Given.UP, 6, -1));
        argument("4 mark one above", x -> x.put(Given.UP, 6, 10000));
        for (int far : FAR) {
            argument("4 key far", x -> x.put(Given.UP, far, 0));
            argument("4 mark far", x -> x.put(Given.UP, 6, far));
        }
        state("4 it has 120", x -> x.put(Given.FULL, 0, 0));
        Check.refused("4 it has 120, in a tournament", Check.NO_STATE, () -> {
            MoraineSort x = Given.row(4, 4, 0, 1, 120);
            Check.fileOf(x, 5, 6);
            x.begin(0, 2);
            return x;
        }, x -> x.put(0, 999, 0));
        file("4 file ahead of key", x -> x.put(Given.FILES, 1000, 0));
        file("4 file ahead of mark", x -> x.put(Given.FILES, 0, -1));
        file("4 file ahead of both", x -> x.put(-1, -1000, 10000));
        argument("4 key ahead of 120", x -> x.put(Given.FULL, 1000, 0));
        argument("4 mark ahead of 120", x -> x.put(Given.FULL, 0, 10000));
        fileOfTwelve("4 file ahead of all, with 12 files", x -> x.put(12, 1000, -1));
    }

    private static void promise5() {
        for (int none : Given.NO_FILES) {
            file("5 file " + none, x -> x.putRow(none, 0, 0, 1, 1));
        }
        argument("5 first one below", x -> x.putRow(Given.EMPTY, -1, 0, 1, 1));
        argument("5 first one above", x -> x.putRow(Given.EMPTY, 1000, 0, 1, 1));
        argument("5 step one below", x -> x.putRow(Given.EMPTY, 0, -1000, 1, 1));
        argument("5 step one above", x -> x.putRow(Given.EMPTY, 0, 1000, 1, 1));
        argument("5 span one below", x -> x.putRow(Given.EMPTY, 0, 0, 0, 1));
        argument("5 span below 0", x -> x.putRow(Given.EMPTY, 0, 0, -1, 1));
        argument("5 span one above", x -> x.putRow(Given.EMPTY, 0, 0, 1000, 1));
        argument("5 count one below", x -> x.putRow(Given.UP, 0, 0, 1, 0));
        argument("5 count below 0", x -> x.putRow(Given.UP, 0, 0, 1, -1));
        argument("5 count one above", x -> x.putRow(Given.EMPTY, 0, 0, 1, 121));
        for (int far : FAR) {
            argument("5 first far", x -> x.putRow(Given.EMPTY, far, 0, 1, 1));
            argument("5 step far", x -> x.putRow(Given.EMPTY, 0, far, 1, 1));
            argument("5 span far", x -> x.putRow(Given.EMPTY, 0, 0, far, 1));
            argument("5 count far", x -> x.putRow(Given.UP, 0, 0, 1, far));
        }
        state("5 one to 120", x -> x.putRow(Given.FULL, 0, 0, 1, 1));
        state("5 120 to 120", x -> x.putRow(Given.FULL, 0, 0, 1, 120));
        state("5 117 to 4: one above", x -> x.putRow(Given.UP, 0, 0, 1, 117));
        state("5 120 to 4", x -> x.putRow(Given.UP, 0, 0, 1, 120));
    }

    private static void promise5IfSeveralApply() {
        file("5 file ahead of first", x -> x.putRow(Given.FILES, 1000, 0, 1, 1));
        file("5 file ahead of step", x -> x.putRow(Given.FILES, 0, 1000, 1, 1));
        file("5 file ahead of span", x -> x.putRow(-1, 0, 0, 0, 1));
        file("5 file ahead of count", x -> x.putRow(-1, 0, 0, 1, 121));
        argument("5 first ahead of 120", x -> x.putRow(Given.FULL, -1, 0, 1, 1));
        argument("5 step ahead of 120", x -> x.putRow(Given.FULL, 0, -1000, 1, 1));
        argument("5 span ahead of 120", x -> x.putRow(Given.FULL, 0, 0, 0, 1));
        argument("5 no count ahead of 120", x -> x.putRow(Given.FULL, 0, 0, 1, 0));
        argument("5 a large count ahead of 120", x -> x.putRow(Given.FULL, 0, 0, 1, 121));
    }

    private static void promise6() {
        Check.refused("6 there is none", Check.NO_STATE, Given::nothing, x -> x.drop());
        Check.Maker dropped = () -> {
            MoraineSort x = Given.some();
            for (int file = 0; file < Given.FILES; file++) {
                x.drop();
            }
            return x;
        };
        Check.refused("6 there is none any more", Check.NO_STATE, dropped, x -> x.drop());
    }

    private static void promises8And10To13() {
        for (int none : Given.NO_FILES) {
            file("8 file " + none, x -> x.size(none));
            file("10 file " + none, x -> x.pages(none));
            file("11 file " + none, x -> x.order(none));
            file("12 file " + none, x -> x.distinct(none));
            file("13 file " + none, x -> x.inversions(none));
        }
        fileOfTwelve("8 file 12", x -> x.size(12));
        fileOfTwelve("10 file 12", x -> x.pages(12));
        fileOfTwelve("11 file 12", x -> x.order(12));
        fileOfTwelve("12 file 12", x -> x.distinct(12));
        fileOfTwelve("13 file 12", x -> x.inversions(12));
    }

    private static void promise9() {
        for (int none : Given.NO_FILES) {
            file("9 file " + none, x -> x.at(none, 0, false));
            file("9 file " + none + " and place", x -> x.at(none, none, true));
        }
        fileOfTwelve("9 file 12", x -> x.at(12, 0, true));
        file("9 no place in a file without records", x -> x.at(Given.EMPTY, 0, false));
        file("9 place behind the last of 4", x -> x.at(Given.UP, 4, false));
        file("9 place behind the last of 120", x -> x.at(Given.FULL, 120, true));
        file("9 place one below", x -> x.at(Given.UP, -1, false));
        for (int far : FAR) {
            file("9 place far", x -> x.at(Given.FULL, far, true));
        }
    }

    private static void promise17() {
        for (int none : Given.NO_FILES) {
            file("17 file " + none, x -> x.sort(none, true, true, true));
        }
        stateOfTwelve("17 there are 12", x -> x.sort(Given.UP, true, true, true));
        stateOfTwelve("17 there are 12, loading", x -> x.sort(Given.FULL, false, false, false));
        stateOfTwelve("17 there are 12, no records", x -> x.sort(Given.EMPTY, true, true, true));
        fileOfTwelve("17 file ahead of 12", x -> x.sort(12, true, true, true));
        fileOfTwelve("17 file below 0 ahead of 12", x -> x.sort(-1, true, true, true));
    }

    private static void promise19() {
        file("19 run one below", x -> x.runSize(-1));
        file("19 run one above", x -> x.runSize(Given.RUNS));
        for (int far : FAR) {
            file("19 run far", x -> x.runSize(far));
        }
    }

    private static void promise21() {
        file("21 merge one below", x -> x.merge(-1, 0));
        file("21 merge one above", x -> x.merge(Given.MERGES, 1));
        argument("21 what one below", x -> x.merge(0, -1));
        argument("21 what one above", x -> x.merge(Given.MERGES - 1, 2));
        file("21 merge ahead of what", x -> x.merge(Given.MERGES, 2));
        file("21 merge below 0 ahead of what", x -> x.merge(-1, -1));
        fileOfNothing("21 no merge ahead of what", x -> x.merge(0, 2));
        for (int far : FAR) {
            file("21 merge far", x -> x.merge(far, 0));
            argument("21 what far", x -> x.merge(0, far));
        }
    }

    private static void promise22Files() {
        for (int none : Given.NO_FILES) {
            file("22 first " + none, x -> x.begin(none, 2));
        }
        file("22 the last one of 2 is no file", x -> x.begin(Given.FILES - 1, 2));
        file("22 the last one of 8 is no file", x -> x.begin(1, 8));
        fileOfTwelve("22 first is 12", x -> x.begin(12, 2));
        fileOfTwelve("22 the last one of 2 is 12", x -> x.begin(11, 2));
        fileOfTwelve("22 the last one of 8 is 12", x -> x.begin(5, 8));
    }

    private static void promise22Count() {
        argument("22 count one below", x -> x.begin(Given.UP, 1));
        argument("22 count 0", x -> x.begin(Given.UP, 0));
        argument("22 count below 0", x -> x.begin(Given.UP, -1));
        argument("22 count far below 0", x -> x.begin(Given.UP, Integer.MIN_VALUE));
        argument("22 count is 1, from the last file", x -> x.begin(Given.FILES - 1, 1));
        Check.refused("22 count one above", Check.NO_ARGUMENT, () -> Given.empties(9),
                x -> x.begin(0, 9));
        Check.refused("22 count 12", Check.NO_ARGUMENT, () -> Given.empties(12),
                x -> x.begin(0, 12));
    }

    private static void promise22Up() {
        state("22 the first one is not up", x -> x.begin(Given.NEITHER, 2));
        state("22 the last one is not up", x -> x.begin(Given.UP, 3));
        state("22 one is down", x -> x.begin(Given.FULL, 2));
        state("22 one of 8 is not up", x -> x.begin(Given.UP, 8));
    }

    private static void promise22IfSeveralApply() {
        file("22 first ahead of a small count", x -> x.begin(Given.FILES, 1));
        file("22 first ahead of no count", x -> x.begin(Given.FILES, 0));
        file("22 first ahead of a count below 0", x -> x.begin(-1, -1));
        file("22 first ahead of a large count", x -> x.begin(-1, 9));
        file("22 one of them ahead of a large count", x -> x.begin(0, 9));
        file("22 one of them ahead of up", x -> x.begin(Given.NEITHER, 7));
        for (int far : FAR) {
            file("22 first far ahead of count", x -> x.begin(far, far));
        }
        file("22 a count far above ahead of itself", x -> x.begin(0, Integer.MAX_VALUE));
        argument("22 a small count ahead of up", x -> x.begin(Given.NEITHER, 1));
        argumentOfTwelve("22 a large count ahead of up", x -> x.begin(Given.UP, 9));
    }

    private static void promises23And24() {
        Check.refused("23 there was none", Check.NO_STATE, Given::nothing, x -> x.next());
        Check.refused("23 there is none any more", Check.NO_STATE, Given::ended, x -> x.next());
        Check.refused("24 there was none", Check.NO_STATE, Given::nothing, x -> x.winner());
        Check.refused("24 there is none any more", Check.NO_STATE, Given::ended, x -> x.winner());
    }

    private static void promise25() {
        Check.refused("25 there was none", Check.NO_STATE, Given::nothing, x -> x.loser(1));
        Check.refused("25 there is none any more", Check.NO_STATE, Given::ended, x -> x.loser(1));
        for (int node : new int[] {0, 2, -1, Integer.MIN_VALUE, Integer.MAX_VALUE}) {
            file("25 node " + node + " of K 2", x -> x.loser(node));
            Check.refused("25 no tournament ahead of node " + node, Check.NO_STATE, Given::nothing,
                    x -> x.loser(node));
            Check.refused("25 an ended one ahead of node " + node, Check.NO_STATE, Given::ended,
                    x -> x.loser(node));
        }
    }

    private static void promise27() {
        for (int none : Given.NO_FILES) {
            file("27 one " + none, x -> x.join(none, Given.UP, 0));
            file("27 other " + none, x -> x.join(Given.UP, none, 0));
        }
        argument("27 how one below", x -> x.join(Given.UP, Given.OTHER_UP, -1));
        argument("27 how one above", x -> x.join(Given.UP, Given.OTHER_UP, 4));
        for (int far : FAR) {
            argument("27 how far", x -> x.join(Given.UP, Given.OTHER_UP, far));
        }
        for (int how = 0; how < 4; how++) {
            int some = how;
            state("27 a is not up, how " + how, x -> x.join(Given.NEITHER, Given.UP, some));
            state("27 b is not up, how " + how, x -> x.join(Given.UP, Given.NEITHER, some));
            state("27 b is down, how " + how, x -> x.join(Given.UP, Given.FULL, some));
            stateOfTwelve("27 there are 12, how " + how,
                    x -> x.join(Given.UP, Given.OTHER_UP, some));
        }
        stateOfTwelve("27 there are 12, without records", x -> x.join(Given.EMPTY, 11, 0));
        state("27 121 records by how 0", x -> x.join(Given.SAME, Given.SAME, 0));
        state("27 121 records by how 1", x -> x.join(Given.SAME, Given.SAME, 1));
    }

    private static void promise27IfSeveralApply() {
        file("27 one ahead of how", x -> x.join(-1, Given.UP, 4));
        file("27 other ahead of how", x -> x.join(Given.UP, Given.FILES, -1));
        file("27 one ahead of not up", x -> x.join(-1, Given.NEITHER, 0));
        file("27 other ahead of not up", x -> x.join(Given.NEITHER, Given.FILES, 0));
        fileOfTwelve("27 one ahead of 12", x -> x.join(12, Given.UP, 0));
        fileOfTwelve("27 other ahead of 12", x -> x.join(Given.UP, 12, 0));
        argument("27 how ahead of a that is not up", x -> x.join(Given.NEITHER, Given.UP, 4));
        argument("27 how ahead of b that is not up", x -> x.join(Given.UP, Given.NEITHER, -1));
        argumentOfTwelve("27 how ahead of 12", x -> x.join(Given.UP, Given.UP, 4));
        argument("27 how ahead of 121", x -> x.join(Given.SAME, Given.SAME, 4));
    }

    private static void promise28() {
        for (int none : Given.NO_FILES) {
            file("28 one " + none, x -> x.split(none, Given.UP));
            file("28 other " + none, x -> x.split(Given.UP, none));
            file("28 both " + none, x -> x.split(none, none));
        }
        stateOfTwelve("28 there are 12", x -> x.split(Given.UP, Given.OTHER_UP));
        stateOfTwelve("28 there are 12, without records", x -> x.split(Given.EMPTY, 11));
        state("28 121 records", x -> x.split(Given.SAME, Given.SAME));
        fileOfTwelve("28 one ahead of 12", x -> x.split(12, Given.UP));
        fileOfTwelve("28 other ahead of 12", x -> x.split(Given.UP, -1));
    }

    private static void promise29() {
        for (int none : Given.NO_FILES) {
            file("29 file " + none, x -> x.group(none, 0));
            file("29 file " + none + " ahead of how", x -> x.group(none, 4));
        }
        argument("29 how one below", x -> x.group(Given.UP, -1));
        argument("29 how one above", x -> x.group(Given.UP, 4));
        for (int far : FAR) {
            argument("29 how far", x -> x.group(Given.UP, far));
        }
        for (int how = 0; how < 4; how++) {
            int some = how;
            state("29 neither up nor down, how " + how, x -> x.group(Given.NEITHER, some));
            stateOfTwelve("29 there are 12, how " + how, x -> x.group(Given.UP, some));
        }
        stateOfTwelve("29 there are 12, down", x -> x.group(Given.FULL, 0));
        stateOfTwelve("29 there are 12, without records", x -> x.group(Given.EMPTY, 0));
        fileOfTwelve("29 file ahead of 12", x -> x.group(12, 0));
        argument("29 how ahead of neither", x -> x.group(Given.NEITHER, 4));
        argumentOfTwelve("29 how ahead of 12", x -> x.group(Given.UP, -1));
    }

    private static void promise30() {
        for (int none : Given.NO_FILES) {
            file("30 file " + none, x -> x.sortCost(none, true, true, 3));
        }
        argument("30 memory one below", x -> x.sortCost(Given.FULL, true, true, 2));
        argument("30 memory one above", x -> x.sortCost(Given.FULL, false, false, 13));
        argument("30 memory, without records", x -> x.sortCost(Given.EMPTY, false, false, 2));
        for (int far : FAR) {
            argument("30 memory far", x -> x.sortCost(Given.FULL, true, true, far));
        }
        file("30 file ahead of memory", x -> x.sortCost(Given.FILES, true, true, 2));
        fileOfTwelve("30 file 12 ahead of memory", x -> x.sortCost(12, true, true, 13));
    }

    private static void promise31() {
        for (int none : Given.NO_FILES) {
            file("31 file " + none, x -> x.memoryFor(none, true, 0));
        }
        argument("31 merges one below", x -> x.memoryFor(Given.FULL, true, -1));
        argument("31 merges one above", x -> x.memoryFor(Given.FULL, false, 101));
        argument("31 merges, without records", x -> x.memoryFor(Given.EMPTY, false, 101));
        for (int far : FAR) {
            argument("31 merges far", x -> x.memoryFor(Given.FULL, true, far));
        }
        file("31 file ahead of merges", x -> x.memoryFor(Given.FILES, true, -1));
        fileOfTwelve("31 file 12 ahead of merges", x -> x.memoryFor(12, true, 101));
    }

    private static void promises32And33() {
        for (int none : Given.NO_FILES) {
            file("32 one " + none, x -> x.splitCost(none, Given.UP));
            file("32 other " + none, x -> x.splitCost(Given.UP, none));
            file("33 one " + none, x -> x.share(none, Given.UP));
            file("33 other " + none, x -> x.share(Given.UP, none));
        }
        fileOfTwelve("32 one is 12", x -> x.splitCost(12, Given.UP));
        fileOfTwelve("32 other is 12", x -> x.splitCost(Given.UP, 12));
        fileOfTwelve("33 one is 12", x -> x.share(12, Given.UP));
        fileOfTwelve("33 other is 12", x -> x.share(Given.UP, 12));
        file("33 other, of one without records", x -> x.share(Given.EMPTY, Given.FILES));
        file("32 other, of one without records", x -> x.splitCost(Given.EMPTY, Given.FILES));
    }
}
