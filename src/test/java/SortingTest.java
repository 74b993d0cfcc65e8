/** Promises 17 to 21: sorting, its runs and its merges. */
public final class SortingTest {
    public static void main(String[] args) {
        loadingByLevels();
        loadingByLeast();
        leastOfFour();
        levelsOfFour();
        leastTakesTheFewest();
        replacingUp();
        replacingFreezes();
        replacingDown();
        stability();
        levelAlone();
        withoutRecords();
        latestOnly();
        exceptions();
        Check.end("SortingTest");
    }

    private static MoraineSort withRow(int page, int memory, int first, int step, int span,
            int count) {
        MoraineSort x = new MoraineSort();
        x.setMemory(page, memory);
        x.addFile();
        x.putRow(0, first, step, span, count);
        return x;
    }

    private static void loadingByLevels() {
        MoraineSort x = withRow(2, 3, 13, -1, 999, 13);
        Check.due("17 number", 1, () -> x.sort(0, false, false, false));
        Check.due("17 row", "1 2 3 4 5 6 7 8 9 10 11 12 13", () -> Check.rowOf(x, 1, false));
        Check.due("17 the file stays", 13, () -> x.at(0, 0, false));
        Check.due("18 runs", 3, () -> x.runs());
        Check.due("19 run sizes", "6 6 1", () -> Check.runsOf(x));
        Check.due("20 merges", 2, () -> x.merges());
        Check.due("21 merges", "2>12 2>13", () -> Check.mergesOf(x));
        Check.due("14 read: 7, 3 and 3, 6 and 1", 20, () -> x.read());
        Check.due("15 written: 7, 6, 7", 20, () -> x.written());
        Check.due("30 the same", 40, () -> x.sortCost(0, false, false, 3));
    }

    private static void loadingByLeast() {
        MoraineSort x = withRow(2, 3, 13, -1, 999, 13);
        x.sort(0, false, true, true);
        Check.due("17 down", "13 12 11 10 9 8 7 6 5 4 3 2 1", () -> Check.rowOf(x, 1, false));
        Check.due("19 run sizes", "6 6 1", () -> Check.runsOf(x));
        Check.due("21 merges", "2>7 2>13", () -> Check.mergesOf(x));
        Check.due("14 read: 7, 1 and 3, 3 and 4", 18, () -> x.read());
        Check.due("15 written: 7, 4, 7", 18, () -> x.written());
        Check.due("30 the same", 36, () -> x.sortCost(0, false, true, 3));
    }

    private static void leastOfFour() {
        MoraineSort x = withRow(2, 5, 0, 7, 45, 45);
        x.sort(0, false, true, false);
        Check.due("19 run sizes", "10 10 10 10 5", () -> Check.runsOf(x));
        Check.due("21 first (5 - 2) % 3 + 2 runs", "2>15 4>45", () -> Check.mergesOf(x));
        MoraineSort y = withRow(2, 5, 0, 7, 30, 30);
        y.sort(0, false, true, false);
        Check.due("21 first (3 - 2) % 3 + 2 runs", "3>30", () -> Check.mergesOf(y));
        MoraineSort z = withRow(2, 5, 0, 7, 70, 70);
        z.sort(0, false, true, false);
        Check.due("21 first (7 - 2) % 3 + 2 runs", "4>40 4>70", () -> Check.mergesOf(z));
    }

    private static void levelsOfFour() {
        MoraineSort x = withRow(2, 5, 0, 7, 45, 45);
        x.sort(0, false, false, false);
        Check.due("21 the last stays alone", "4>40 2>45", () -> Check.mergesOf(x));
        Check.due("14 read: 23, 20, 20 and 3", 66, () -> x.read());
        Check.due("15 written: 23, 20, 23", 66, () -> x.written());
    }

    private static void leastTakesTheFewest() {
        MoraineSort x = withRow(2, 3, 0, 5, 999, 26);
        x.sort(0, false, true, false);
        Check.due("19 run sizes", "6 6 6 6 2", () -> Check.runsOf(x));
        Check.due("21 by size, then by place", "2>8 2>12 2>14 2>26", () -> Check.mergesOf(x));
        Check.due("14 read: 13, 1 and 3, 3 and 3, 3 and 4, 6 and 7", 43, () -> x.read());
    }

    private static void replacingUp() {
        MoraineSort x = withRow(2, 3, 0, 1, 999, 50);
        x.sort(0, true, false, false);
        Check.due("18 one run", "50", () -> Check.runsOf(x));
        Check.due("20 no merge", 0, () -> x.merges());
        Check.due("14 read", 25, () -> x.read());
        MoraineSort same = withRow(2, 3, 5, 0, 999, 50);
        same.sort(0, true, false, false);
        Check.due("18 the same keys are not frozen", "50", () -> Check.runsOf(same));
        same.sort(0, true, false, true);
        Check.due("18 nor for down", "50", () -> Check.runsOf(same));
        MoraineSort down = withRow(2, 3, 50, -1, 999, 50);
        down.sort(0, true, false, false);
        Check.due("19 all frozen each time", "6 6 6 6 6 6 6 6 2", () -> Check.runsOf(down));
    }

    private static void replacingFreezes() {
        MoraineSort x = new MoraineSort();
        x.setMemory(2, 3);
        Check.fileOf(x, 5, 3, 9, 7, 1, 8, 4, 2, 6, 0);
        x.sort(0, true, true, false);
        // 1 goes, 4 comes; 3 goes, 2 is frozen; 4 goes, 6 comes; 5 goes, 0 is frozen; 6 7 8 9 go
        Check.due("19 run sizes", "8 2", () -> Check.runsOf(x));
        Check.due("21 merges", "2>10", () -> Check.mergesOf(x));
        Check.due("17 row", "0:9 1:4 2:7 3:1 4:6 5:0 6:8 7:3 8:5 9:2",
                () -> Check.rowOf(x, 1, true));
        Check.due("14 read: 5, 4 and 1", 10, () -> x.read());
        Check.due("15 written: 4 and 1, 5", 10, () -> x.written());
    }

    private static void replacingDown() {
        MoraineSort x = withRow(2, 3, 50, -1, 999, 50);
        x.sort(0, true, false, true);
        Check.due("19 down is one run", "50", () -> Check.runsOf(x));
        MoraineSort y = new MoraineSort();
        y.setMemory(2, 3);
        Check.fileOf(y, -5, -3, -9, -7, -1, -8, -4, -2, -6, 0);
        y.sort(0, true, true, true);
        Check.due("19 run sizes, down", "8 2", () -> Check.runsOf(y));
    }

    private static void stability() {
        for (int way = 0; way < 8; way++) {
            MoraineSort x = new MoraineSort();
            x.setMemory(2, 3);
            // the runs 2, 1, 1 are merged out of order by the least
            Check.fileOf(x, 2, 1, 2, 1, 2, 1, 2, 1, 2, 1, 2, 1, 1, 2);
            boolean isReplacing = (way & 1) != 0;
            boolean isLeast = (way & 2) != 0;
            boolean isDown = (way & 4) != 0;
            x.sort(0, isReplacing, isLeast, isDown);
            String ones = "1:1 1:3 1:5 1:7 1:9 1:11 1:12";
            String twos = "2:0 2:2 2:4 2:6 2:8 2:10 2:13";
            Check.due("17 in order", isDown ? twos + " " + ones : ones + " " + twos,
                    () -> Check.rowOf(x, 1, true));
            Check.due("11 order", isDown ? 2 : 1, () -> x.order(1));
        }
    }

    private static void levelAlone() {
        MoraineSort x = withRow(2, 3, 0, 11, 999, 25);
        x.sort(0, false, false, false);
        Check.due("19 run sizes", "6 6 6 6 1", () -> Check.runsOf(x));
        Check.due("21 merges", "2>12 2>12 2>24 2>25", () -> Check.mergesOf(x));
        Check.due("14 nothing read of one alone: 13, 12, 12, 12 and 1", 50, () -> x.read());
        Check.due("15 nothing written of it: 13, 12, 12, 13", 50, () -> x.written());
    }

    private static void withoutRecords() {
        MoraineSort x = withRow(2, 3, 0, 11, 999, 25);
        x.sort(0, false, false, false);
        x.addFile();
        Check.due("17 number", 3, () -> x.sort(2, true, true, true));
        Check.due("17 empty", 0, () -> x.size(3));
        Check.due("18 no runs", 0, () -> x.runs());
        Check.due("20 no merges", 0, () -> x.merges());
        Check.noFile("19 no run", () -> x.runSize(0));
        Check.noFile("21 no merge", () -> x.merge(0, 0));
        Check.due("14 nothing read", 50, () -> x.read());
        Check.due("15 nothing written", 50, () -> x.written());
    }

    private static void latestOnly() {
        MoraineSort x = withRow(2, 3, 0, 11, 999, 25);
        x.sort(0, false, false, false);
        x.sortCost(0, false, true, 12);
        x.memoryFor(0, true, 0);
        x.digest();
        Check.due("18 costs do not change it", "6 6 6 6 1", () -> Check.runsOf(x));
        x.drop();
        x.drop();
        Check.due("18 stays without files", 5, () -> x.runs());
        Check.due("20 stays without files", 4, () -> x.merges());
    }

    private static void exceptions() {
        MoraineSort x = withRow(2, 3, 0, 11, 999, 25);
        x.sort(0, false, false, false);
        String before = Check.stateOf(x);
        for (int wrong : new int[] {-1, 5, Integer.MIN_VALUE, Integer.MAX_VALUE}) {
            Check.noFile("17 file", () -> x.sort(wrong, true, true, true));
            Check.noFile("19 run", () -> x.runSize(wrong));
            Check.noFile("21 merge", () -> x.merge(wrong, 0));
            Check.noFile("21 merge ahead of what", () -> x.merge(wrong, 2));
            Check.noArgument("21 what", () -> x.merge(0, wrong));
        }
        Check.noFile("21 the fifth", () -> x.merge(4, 0));
        Check.noArgument("21 what is 2", () -> x.merge(3, 2));
        Check.due("17 nothing changed", before, () -> Check.stateOf(x));
        for (int file = 2; file < 12; file++) {
            x.addFile();
        }
        String full = Check.stateOf(x);
        Check.noState("17 there are 12", () -> x.sort(0, true, true, true));
        Check.noState("17 also of an empty one", () -> x.sort(5, true, true, true));
        Check.noFile("17 file ahead of 12", () -> x.sort(12, true, true, true));
        Check.due("17 nothing changed", full, () -> Check.stateOf(x));
    }
}
