/** Promises 1 to 16: a new object, and what is written to files and asked of them. */
public final class FilesTest {
    public static void main(String[] args) {
        newObject();
        setMemory();
        addFile();
        put();
        putRow();
        putRowExceptions();
        drop();
        sizeAndAt();
        pages();
        order();
        distinctAndInversions();
        putsAreNotCounted();
        readAndWritten();
        spilt();
        Check.end("FilesTest");
    }

    private static void newObject() {
        MoraineSort x = new MoraineSort();
        Check.due("1 files", 0, () -> x.files());
        Check.due("1 read", 0, () -> x.read());
        Check.due("1 written", 0, () -> x.written());
        Check.due("1 spilt", 0, () -> x.spilt());
        Check.due("1 runs", 0, () -> x.runs());
        Check.due("1 merges", 0, () -> x.merges());
        Check.due("1 matches", 0, () -> x.matches());
        Check.noFile("1 size", () -> x.size(0));
        Check.noFile("1 runSize", () -> x.runSize(0));
        Check.noFile("1 merge", () -> x.merge(0, 0));
        Check.noState("1 winner", () -> x.winner());
        long sum = 58067;
        for (int i = 0; i < 7; i++) {
            sum *= 31;
        }
        Check.due("1 digest", sum, () -> x.digest());
        MoraineSort y = new MoraineSort();
        x.addFile();
        Check.due("1 another object", 0, () -> y.files());
    }

    private static void setMemory() {
        MoraineSort x = new MoraineSort();
        Check.due("2 at first", 4, () -> x.setMemory(2, 3));
        Check.due("2 the one before", 3, () -> x.setMemory(10, 12));
        Check.due("2 again", 12, () -> x.setMemory(5, 7));
        x.addFile();
        x.putRow(0, 0, 1, 999, 11);
        Check.due("2 page is 5", 3, () -> x.pages(0));
        String before = Check.stateOf(x);
        int[][] wrong = {{1, 3}, {11, 3}, {2, 2}, {2, 13}, {0, 0}, {-4, 4}, {4, -4},
            {Integer.MIN_VALUE, 4}, {4, Integer.MAX_VALUE}, {Integer.MAX_VALUE, 4}};
        for (int[] pair : wrong) {
            Check.noArgument("2 wrong", () -> x.setMemory(pair[0], pair[1]));
        }
        Check.due("2 nothing changed", before, () -> Check.stateOf(x));
        Check.due("2 memory is 7", 7, () -> x.setMemory(2, 12));
        Check.due("2 edges", 12, () -> x.setMemory(10, 3));
        Check.due("2 page is 10", 2, () -> x.pages(0));
    }

    private static void addFile() {
        MoraineSort x = new MoraineSort();
        for (int file = 0; file < 12; file++) {
            int number = file;
            Check.due("3 number", number, () -> x.addFile());
            Check.due("3 without records", 0, () -> x.size(number));
        }
        String before = Check.stateOf(x);
        Check.noState("3 there are 12", () -> x.addFile());
        Check.due("3 nothing changed", before, () -> Check.stateOf(x));
        Check.due("3 files", 12, () -> x.files());
        x.put(11, 5, 6);
        x.drop();
        Check.due("3 again", 11, () -> x.addFile());
        Check.due("3 empty again", 0, () -> x.size(11));
    }

    private static void put() {
        MoraineSort x = new MoraineSort();
        Check.noFile("4 no file", () -> x.put(0, 1, 1));
        x.addFile();
        Check.due("4 first", 1, () -> x.put(0, -999, 0));
        Check.due("4 second", 2, () -> x.put(0, 999, 9999));
        Check.due("4 row", "-999:0 999:9999", () -> Check.rowOf(x, 0, true));
        String before = Check.stateOf(x);
        Check.noArgument("4 key", () -> x.put(0, 1000, 0));
        Check.noArgument("4 key", () -> x.put(0, -1000, 0));
        Check.noArgument("4 mark", () -> x.put(0, 0, -1));
        Check.noArgument("4 mark", () -> x.put(0, 0, 10000));
        Check.noFile("4 no file first", () -> x.put(1, 1000, -1));
        Check.noFile("4 below 0", () -> x.put(-1, 0, 0));
        Check.noFile("4 far", () -> x.put(Integer.MAX_VALUE, 0, 0));
        Check.due("4 nothing changed", before, () -> Check.stateOf(x));
        for (int i = 2; i < 120; i++) {
            x.put(0, i, i);
        }
        Check.due("4 120", 120, () -> x.size(0));
        String full = Check.stateOf(x);
        Check.noState("4 full", () -> x.put(0, 0, 0));
        Check.noArgument("4 key ahead of full", () -> x.put(0, 1000, 0));
        Check.noArgument("4 mark ahead of full", () -> x.put(0, 0, -1));
        Check.due("4 nothing changed", full, () -> Check.stateOf(x));
    }

    private static void putRow() {
        MoraineSort x = new MoraineSort();
        x.addFile();
        Check.due("5 count", 5, () -> x.putRow(0, 7, 5, 9, 5));
        Check.due("5 row", "7:0 3:1 8:2 4:3 0:4", () -> Check.rowOf(x, 0, true));
        Check.due("5 behind", 9, () -> x.putRow(0, 2, -3, 7, 4));
        Check.due("5 from below 0", "7:0 3:1 8:2 4:3 0:4 2:0 6:1 3:2 0:3",
                () -> Check.rowOf(x, 0, true));
        x.addFile();
        Check.due("5 many", 120, () -> x.putRow(1, 999, -999, 998, 120));
        Check.due("5 key 0", 1, () -> x.at(1, 0, false));
        Check.due("5 key 1", 0, () -> x.at(1, 1, false));
        Check.due("5 key 2", 997, () -> x.at(1, 2, false));
        Check.due("5 mark 99", 99, () -> x.at(1, 99, true));
        Check.due("5 mark 100", 0, () -> x.at(1, 100, true));
        Check.due("5 mark 119", 19, () -> x.at(1, 119, true));
        x.addFile();
        Check.due("5 span 1", 3, () -> x.putRow(2, 999, 999, 1, 3));
        Check.due("5 all 0", "0 0 0", () -> Check.rowOf(x, 2, false));
        Check.due("5 one", 4, () -> x.putRow(2, 0, 0, 999, 1));
    }

    private static void putRowExceptions() {
        MoraineSort x = new MoraineSort();
        Check.noFile("5 no file", () -> x.putRow(0, -1, 1000, 0, 0));
        x.addFile();
        x.putRow(0, 0, 1, 999, 100);
        String before = Check.stateOf(x);
        int[][] wrong = {{-1, 0, 1, 1}, {1000, 0, 1, 1}, {0, -1000, 1, 1}, {0, 1000, 1, 1},
            {0, 0, 0, 1}, {0, 0, 1000, 1}, {0, 0, -5, 1}, {0, 0, 1, 0}, {0, 0, 1, 121},
            {0, 0, 1, -1}, {0, 0, 1, Integer.MIN_VALUE}, {0, 0, 1, Integer.MAX_VALUE},
            {-1, 0, 1, 21}, {0, 1000, 1, 21}, {0, 0, 0, 21}};
        for (int[] row : wrong) {
            Check.noArgument("5 wrong", () -> x.putRow(0, row[0], row[1], row[2], row[3]));
        }
        Check.noState("5 more than 120", () -> x.putRow(0, 0, 0, 1, 21));
        Check.noFile("5 file", () -> x.putRow(1, 0, 0, 1, 1));
        Check.noFile("5 file", () -> x.putRow(-1, 0, 0, 1, 1));
        Check.due("5 nothing changed", before, () -> Check.stateOf(x));
        Check.due("5 just 120", 120, () -> x.putRow(0, 0, 0, 1, 20));
        Check.noState("5 full", () -> x.putRow(0, 0, 0, 1, 1));
    }

    private static void drop() {
        MoraineSort x = new MoraineSort();
        Check.noState("6 none", () -> x.drop());
        Check.fileOf(x, 1);
        Check.fileOf(x, 2, 3);
        Check.due("6 one left", 1, () -> x.drop());
        Check.noFile("6 the greatest is away", () -> x.size(1));
        Check.due("6 the first stays", "1", () -> Check.rowOf(x, 0, false));
        Check.due("6 none left", 0, () -> x.drop());
        String before = Check.stateOf(x);
        Check.noState("6 none again", () -> x.drop());
        Check.due("6 nothing changed", before, () -> Check.stateOf(x));
        Check.due("7 files", 0, () -> x.files());
        x.addFile();
        Check.due("7 files", 1, () -> x.files());
    }

    private static void sizeAndAt() {
        MoraineSort x = new MoraineSort();
        x.addFile();
        Check.due("8 empty", 0, () -> x.size(0));
        Check.noFile("9 no place", () -> x.at(0, 0, false));
        x.put(0, -7, 70);
        x.put(0, 8, 80);
        Check.due("8 size", 2, () -> x.size(0));
        Check.due("9 key", -7, () -> x.at(0, 0, false));
        Check.due("9 mark", 80, () -> x.at(0, 1, true));
        for (int file : new int[] {-1, 1, Integer.MIN_VALUE, Integer.MAX_VALUE}) {
            Check.noFile("8 file", () -> x.size(file));
            Check.noFile("9 file", () -> x.at(file, 0, false));
            Check.noFile("9 place", () -> x.at(0, file == 1 ? 2 : file, true));
            Check.noFile("10 file", () -> x.pages(file));
            Check.noFile("11 file", () -> x.order(file));
            Check.noFile("12 file", () -> x.distinct(file));
            Check.noFile("13 file", () -> x.inversions(file));
        }
    }

    private static void pages() {
        MoraineSort x = new MoraineSort();
        x.addFile();
        Check.due("10 none", 0, () -> x.pages(0));
        int[] due = {1, 1, 1, 1, 2, 2, 2, 2, 3};
        for (int records = 1; records <= due.length; records++) {
            x.put(0, 0, 0);
            int want = due[records - 1];
            Check.due("10 pages", want, () -> x.pages(0));
        }
        x.setMemory(3, 4);
        Check.due("10 page is 3", 3, () -> x.pages(0));
        x.setMemory(10, 4);
        Check.due("10 page is 10", 1, () -> x.pages(0));
    }

    private static void order() {
        MoraineSort x = new MoraineSort();
        Check.fileOf(x);
        Check.fileOf(x, 5);
        Check.fileOf(x, 5, 5, 5);
        Check.fileOf(x, -5, 5, 5, 6);
        Check.fileOf(x, 6, 5, 5, -5);
        Check.fileOf(x, 1, 2, 1);
        int[] due = {3, 3, 3, 1, 2, 0};
        for (int file = 0; file < due.length; file++) {
            int number = file;
            Check.due("11 order", due[file], () -> x.order(number));
        }
    }

    private static void distinctAndInversions() {
        MoraineSort x = new MoraineSort();
        Check.fileOf(x);
        Check.fileOf(x, 3, -3, 3, 0, -999, 999, 999, -999);
        Check.fileOf(x, 4, 3, 2, 1);
        Check.fileOf(x, 2, 2, 2);
        int[] keys = {0, 5, 4, 1};
        int[] pairs = {0, 13, 6, 0};
        for (int file = 0; file < 4; file++) {
            int number = file;
            Check.due("12 distinct", keys[file], () -> x.distinct(number));
            Check.due("12 distinct again", keys[file], () -> x.distinct(number));
            Check.due("13 inversions", pairs[file], () -> x.inversions(number));
        }
        x.addFile();
        x.putRow(4, 119, -1, 999, 120);
        Check.due("12 all", 120, () -> x.distinct(4));
        Check.due("13 all", 120 * 119 / 2, () -> x.inversions(4));
    }

    private static void putsAreNotCounted() {
        MoraineSort x = new MoraineSort();
        x.addFile();
        x.putRow(0, 0, 1, 999, 100);
        x.put(0, 1, 1);
        x.addFile();
        x.drop();
        Check.due("14 read", 0, () -> x.read());
        Check.due("15 written", 0, () -> x.written());
    }

    private static void readAndWritten() {
        MoraineSort x = new MoraineSort();
        Check.fileOf(x, 1, 1, 2, 3, 3);
        x.group(0, 0);
        Check.due("14 a group reads 2", 2, () -> x.read());
        Check.due("15 a group writes 1", 1, () -> x.written());
        x.join(1, 0, 2);
        Check.due("14 a join reads 1 and 2", 5, () -> x.read());
        Check.due("15 a join writes 1", 2, () -> x.written());
        x.setMemory(2, 3);
        x.group(0, 0);
        Check.due("14 pages of 2: 3", 8, () -> x.read());
        Check.due("15 pages of 2: 2", 4, () -> x.written());
        x.drop();
        Check.due("14 stays", 8, () -> x.read());
        Check.due("16 none", 0, () -> x.spilt());
    }

    private static void spilt() {
        MoraineSort x = new MoraineSort();
        x.setMemory(2, 3);
        Check.fileOf(x, 4, 4, 4);
        x.join(0, 0, 0);
        Check.due("16 two pages", 2, () -> x.spilt());
        Check.due("16 written: 2 spilt, 5 of the new file", 7, () -> x.written());
        Check.due("16 read: 2, 2, and 2 for each of 3", 10, () -> x.read());
        x.join(0, 0, 0);
        Check.due("16 again", 4, () -> x.spilt());
    }
}
