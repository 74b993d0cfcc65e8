/** Promises 30 to 34: what would be, and the digest. */
public final class CostsTest {
    public static void main(String[] args) {
        sortCost();
        memoryFor();
        splitCost();
        share();
        digest();
        exceptions();
        nothingChanges();
        Check.end("CostsTest");
    }

    private static void sortCost() {
        MoraineSort x = new MoraineSort();
        x.setMemory(2, 12);
        x.addFile();
        x.putRow(0, 13, -1, 999, 13);
        Check.due("30 by levels", 40, () -> x.sortCost(0, false, false, 3));
        Check.due("30 by the least", 36, () -> x.sortCost(0, false, true, 3));
        Check.due("30 replacing", 40, () -> x.sortCost(0, true, false, 3));
        // runs 8 and 5: 7 read, 4 and 3 written; 4 and 3 read, 7 written
        Check.due("30 another memory", 28, () -> x.sortCost(0, false, false, 4));
        Check.due("30 one run", 14, () -> x.sortCost(0, false, false, 12));
        x.setMemory(10, 3);
        Check.due("30 another page", 4, () -> x.sortCost(0, false, false, 3));
        x.addFile();
        Check.due("30 empty", 0, () -> x.sortCost(1, true, true, 5));
        MoraineSort y = new MoraineSort();
        y.addFile();
        y.putRow(0, 100, -1, 999, 100);
        int before = y.sortCost(0, true, true, 4);
        y.sort(0, true, true, false);
        Check.due("30 as it is sorted to be up", before, () -> y.read() + y.written());
    }

    private static void memoryFor() {
        MoraineSort x = new MoraineSort();
        x.setMemory(2, 7);
        x.addFile();
        x.putRow(0, 24, -1, 999, 24);
        // runs of 6, 8, 10, 12, 14, ..: 4, 3, 3, 2, 2, ..; one with 24, at memory 12
        Check.due("31 none", 12, () -> x.memoryFor(0, false, 0));
        // with 4 runs and FAN 2 three merges; with 3 and FAN 3 one
        Check.due("31 one", 4, () -> x.memoryFor(0, false, 1));
        Check.due("31 two", 4, () -> x.memoryFor(0, true, 2));
        Check.due("31 three", 3, () -> x.memoryFor(0, true, 3));
        Check.due("31 many", 3, () -> x.memoryFor(0, true, 100));
        x.put(0, 0, 0);
        Check.due("31 never", -1, () -> x.memoryFor(0, false, 0));
        x.addFile();
        x.putRow(1, 0, 1, 999, 120);
        Check.due("31 one run by replacing", 3, () -> x.memoryFor(1, true, 0));
        Check.due("31 not by loading", -1, () -> x.memoryFor(1, false, 0));
        x.addFile();
        x.putRow(2, 119, -1, 999, 120);
        Check.due("31 to be up", -1, () -> x.memoryFor(2, true, 0));
        x.addFile();
        Check.due("31 empty", 3, () -> x.memoryFor(3, false, 0));
    }

    private static void splitCost() {
        MoraineSort x = new MoraineSort();
        x.setMemory(10, 12);
        x.addFile();
        x.putRow(0, 5, 0, 999, 120);
        // at depth 0, to 2: 12 and 12 read and written (b has more than 10 pages)
        // at depth 3: parts of 100 and 20: 10 and 12, 2 and 12; the new file: 14400 records
        Check.due("32 also more than 120", 3 * 48 + 22 + 14 + 1440, () -> x.splitCost(0, 0));
        for (int file = 1; file < 12; file++) {
            x.addFile();
        }
        Check.due("32 also with 12 files", 3 * 48 + 36 + 1440, () -> x.splitCost(0, 0));
        Check.due("32 empty", 0, () -> x.splitCost(0, 1));
        x.put(1, 6, 0);
        Check.due("32 b is small: 1 and 12", 13, () -> x.splitCost(0, 1));
    }

    private static void share() {
        MoraineSort x = new MoraineSort();
        Check.fileOf(x, 1, 2, -2, 3, 3, 999);
        Check.fileOf(x, 3, -2, -999);
        x.addFile();
        Check.due("33 part", 0.5, () -> x.share(0, 1));
        Check.due("33 the other way", 2.0 / 3.0, () -> x.share(1, 0));
        Check.due("33 itself", 1.0, () -> x.share(0, 0));
        Check.due("33 with an empty one", 0.0, () -> x.share(0, 2));
        Check.due("33 of an empty one", 0.0, () -> x.share(2, 0));
        Check.due("33 of empty ones", 0.0, () -> x.share(2, 2));
    }

    private static long with(long sum, long... numbers) {
        for (long number : numbers) {
            sum = sum * 31 + number;
        }
        return sum;
    }

    private static void digest() {
        MoraineSort x = new MoraineSort();
        x.setMemory(2, 3);
        x.addFile();
        x.put(0, 7, 70);
        x.put(0, -5, 50);
        x.put(0, 7, 71);
        Check.due("34 a file", with(58067, 1, 0, 0, 0, 0, 0, 0, 3, 2, 0, 2, 4, 4,
                7, 70, -5, 50, 7, 71), () -> x.digest());
        x.setMemory(3, 3);
        Check.due("34 another page", with(58067, 1, 0, 0, 0, 0, 0, 0, 3, 1, 0, 2, 2, 2,
                7, 70, -5, 50, 7, 71), () -> x.digest());
        MoraineSort y = new MoraineSort();
        y.setMemory(2, 3);
        y.addFile();
        y.putRow(0, 6, -1, 999, 7);
        y.sort(0, false, false, false);
        y.addFile();
        y.begin(1, 2);
        long sum = with(58067, 3, 8, 8, 0, 2, 6, 1, 1, 2, 7, 1);
        sum = with(sum, 7, 4, 2, 7, 16, 16, 6, 0, 5, 1, 4, 2, 3, 3, 2, 4, 1, 5, 0, 6);
        sum = with(sum, 7, 4, 1, 7, 16, 8, 0, 6, 1, 5, 2, 4, 3, 3, 4, 2, 5, 1, 6, 0);
        sum = with(sum, 0, 0, 3, 0, 0, 0);
        Check.due("34 a sort and a tournament", sum, () -> y.digest());
        Check.due("34 the same again", sum, () -> y.digest());
        MoraineSort z = new MoraineSort();
        z.setMemory(2, 3);
        Check.fileOf(z, 4, 4, 4);
        z.join(0, 0, 0);
        z.drop();
        Check.due("34 spilt", with(58067, 1, 10, 7, 2, 0, 0, 0, 3, 2, 3, 1, 4, 4,
                4, 0, 4, 1, 4, 2), () -> z.digest());
    }

    private static void exceptions() {
        MoraineSort x = new MoraineSort();
        Check.fileOf(x, 1, 2, 3);
        for (int wrong : new int[] {-1, 1, Integer.MIN_VALUE, Integer.MAX_VALUE}) {
            Check.noFile("30 file", () -> x.sortCost(wrong, true, true, 3));
            Check.noFile("30 file ahead of memory", () -> x.sortCost(wrong, true, true, wrong));
            Check.noArgument("30 memory", () -> x.sortCost(0, true, true, wrong));
            Check.noFile("31 file", () -> x.memoryFor(wrong, true, 0));
            Check.noFile("31 file ahead of merges", () -> x.memoryFor(wrong, true, -1));
            Check.noFile("32 one", () -> x.splitCost(wrong, 0));
            Check.noFile("32 other", () -> x.splitCost(0, wrong));
            Check.noFile("33 one", () -> x.share(wrong, 0));
            Check.noFile("33 other", () -> x.share(0, wrong));
        }
        Check.noArgument("30 memory is 2", () -> x.sortCost(0, true, true, 2));
        Check.noArgument("30 memory is 13", () -> x.sortCost(0, true, true, 13));
        Check.noArgument("31 merges are -1", () -> x.memoryFor(0, true, -1));
        Check.noArgument("31 merges are 101", () -> x.memoryFor(0, true, 101));
        Check.due("31 merges are 100", 3, () -> x.memoryFor(0, true, 100));
    }

    private static void nothingChanges() {
        MoraineSort x = new MoraineSort();
        x.addFile();
        x.putRow(0, 50, 13, 101, 100);
        x.sort(0, true, true, false);
        x.sort(0, false, false, false);
        x.begin(1, 2);
        x.next();
        String before = Check.stateOf(x);
        for (int memory = 3; memory <= 12; memory++) {
            x.sortCost(0, true, true, memory);
            x.sortCost(0, false, false, memory);
        }
        x.memoryFor(0, true, 1);
        x.splitCost(0, 1);
        x.splitCost(0, 0);
        x.share(0, 1);
        x.digest();
        Check.due("30 nothing is changed", before, () -> Check.stateOf(x));
        Check.due("30 memory stays", 4, () -> x.setMemory(4, 4));
    }
}
