/** Promises 27 to 29: joins by merging and by splitting, and groups. */
public final class JoinsTest {
    public static void main(String[] args) {
        joinHows();
        joinMarks();
        joinSpills();
        joinDoesNotSpill();
        joinEmpty();
        joinTooLarge();
        joinExceptions();
        splitSmall();
        splitOnce();
        splitDeep();
        splitParts();
        splitEmpty();
        splitExceptions();
        groupHows();
        groupDown();
        groupEmpty();
        groupExceptions();
        Check.end("JoinsTest");
    }

    private static MoraineSort twoFiles() {
        MoraineSort x = new MoraineSort();
        Check.fileOf(x, 1, 2, 2, 4, 5);
        Check.fileOf(x, 0, 2, 2, 3, 5, 5, 9);
        return x;
    }

    private static void joinHows() {
        String[] due = {
            "2:101 2:102 2:201 2:202 5:404 5:405",
            "1:0 2:101 2:102 2:201 2:202 4:3 5:404 5:405",
            "2:1 2:2 5:4",
            "1:0 4:3"};
        int[] pages = {2, 2, 1, 1};
        for (int how = 0; how < 4; how++) {
            MoraineSort x = twoFiles();
            int number = how;
            Check.due("27 number", 2, () -> x.join(0, 1, number));
            Check.due("27 row", due[how], () -> Check.rowOf(x, 2, true));
            Check.due("14 read", 4, () -> x.read());
            Check.due("15 written", pages[how], () -> x.written());
            Check.due("16 spilt", 0, () -> x.spilt());
        }
        MoraineSort x = twoFiles();
        x.join(1, 0, 0);
        Check.due("27 the other way", "2:101 2:102 2:201 2:202 5:404 5:504",
                () -> Check.rowOf(x, 2, true));
        x.join(0, 0, 3);
        Check.due("27 with itself, none without", 0, () -> x.size(3));
        x.join(0, 0, 2);
        Check.due("27 with itself", Check.rowOf(x, 0, true), () -> Check.rowOf(x, 4, true));
        Check.due("14 read twice", 4 + 4 + 4, () -> x.read());
    }

    private static void joinMarks() {
        MoraineSort x = new MoraineSort();
        x.addFile();
        x.put(0, -3, 9999);
        x.put(0, 7, 123);
        x.addFile();
        x.put(1, -3, 9999);
        x.put(1, 7, 4567);
        x.join(0, 1, 0);
        Check.due("27 marks", "-3:9899 7:6867", () -> Check.rowOf(x, 2, true));
        x.split(0, 1);
        Check.due("28 marks", "-3:9899 7:6867", () -> Check.rowOf(x, 3, true));
    }

    private static void joinSpills() {
        for (int how = 0; how < 4; how++) {
            MoraineSort x = new MoraineSort();
            x.setMemory(2, 4);
            Check.fileOf(x, 1, 3, 3, 3, 6, 8, 8);
            Check.fileOf(x, 3, 3, 3, 3, 3, 6, 6, 6, 6, 6, 6, 8, 8, 8, 8);
            x.join(0, 1, how);
            boolean isSpilling = how < 2;
            // only those with 3: 5 are more than 4, and three of a have it
            Check.due("16 spilt", isSpilling ? 3 : 0, () -> x.spilt());
            Check.due("14 read: 4 and 8, and 3 for each of 3", isSpilling ? 21 : 12,
                    () -> x.read());
            int[] made = {15 + 6 + 8, 30, 6, 1};
            int records = made[how];
            Check.due("27 size", records, () -> x.size(2));
            Check.due("15 written", (isSpilling ? 3 : 0) + (records + 1) / 2, () -> x.written());
        }
    }

    private static void joinDoesNotSpill() {
        MoraineSort x = new MoraineSort();
        x.setMemory(2, 3);
        Check.fileOf(x, 4, 4);
        Check.fileOf(x, 4, 4);
        x.join(0, 1, 0);
        Check.due("16 just as many as there is room", 0, () -> x.spilt());
        Check.fileOf(x, 5);
        Check.fileOf(x, 5, 5, 5, 5, 5);
        x.join(3, 4, 1);
        Check.due("16 one of a alone", 0, () -> x.spilt());
        Check.fileOf(x, 5, 6);
        x.join(6, 4, 1);
        Check.due("16 the next has another key", 0, () -> x.spilt());
        x.join(4, 3, 0);
        Check.due("16 few of b", 0, () -> x.spilt());
        MoraineSort y = new MoraineSort();
        y.setMemory(2, 3);
        Check.fileOf(y, -1, 0);
        Check.fileOf(y, 0, 0, 0);
        y.join(0, 1, 1);
        Check.due("16 one of a alone, at its end", 0, () -> y.spilt());
    }

    private static void joinEmpty() {
        MoraineSort x = new MoraineSort();
        x.addFile();
        Check.fileOf(x, 1, 2, 3, 4, 5);
        x.join(0, 1, 1);
        Check.due("27 a is empty", 0, () -> x.size(2));
        Check.due("14 read", 2, () -> x.read());
        x.join(1, 0, 1);
        Check.due("27 b is empty", "1:0 2:1 3:2 4:3 5:4", () -> Check.rowOf(x, 3, true));
        x.join(1, 0, 0);
        Check.due("27 no pairs", 0, () -> x.size(4));
        Check.due("14 read", 6, () -> x.read());
        Check.due("15 written", 2, () -> x.written());
    }

    private static void joinTooLarge() {
        MoraineSort x = new MoraineSort();
        x.setMemory(2, 3);
        x.addFile();
        x.putRow(0, 5, 0, 999, 11);
        x.addFile();
        x.putRow(1, 5, 0, 999, 11);
        x.join(0, 1, 2);
        x.begin(0, 2);
        String before = Check.stateOf(x);
        Check.noState("27 121", () -> x.join(0, 1, 0));
        Check.noState("27 121", () -> x.join(0, 1, 1));
        Check.noState("28 121", () -> x.split(0, 1));
        Check.due("27 nothing changed", before, () -> Check.stateOf(x));
        Check.fileOf(x, 5, 5, 5, 5, 5, 5, 5, 5, 5, 5);
        Check.fileOf(x, 5, 5, 5, 5, 5, 5, 5, 5, 5, 5, 5, 5);
        Check.due("27 just 120", 5, () -> x.join(3, 4, 0));
        Check.due("28 just 120", 6, () -> x.split(4, 3));
        Check.due("27 120", 120, () -> x.size(5));
        Check.due("28 120", 120, () -> x.size(6));
        x.put(3, 6, 0);
        Check.noState("27 121 with one without a pair", () -> x.join(3, 4, 1));
    }

    private static void joinExceptions() {
        MoraineSort x = twoFiles();
        Check.fileOf(x, 2, 1);
        String before = Check.stateOf(x);
        for (int wrong : new int[] {-1, 4, Integer.MIN_VALUE, Integer.MAX_VALUE}) {
            Check.noFile("27 one", () -> x.join(wrong, 0, 0));
            Check.noFile("27 other", () -> x.join(0, wrong, 0));
            Check.noFile("27 ahead of how", () -> x.join(0, wrong, wrong));
            Check.noFile("27 ahead of up", () -> x.join(2, wrong, 0));
            Check.noArgument("27 how", () -> x.join(0, 1, wrong));
            Check.noArgument("27 how ahead of up", () -> x.join(2, 2, wrong));
        }
        Check.noState("27 a is not up", () -> x.join(2, 0, 0));
        Check.noState("27 b is not up", () -> x.join(0, 2, 3));
        Check.due("27 nothing changed", before, () -> Check.stateOf(x));
        for (int file = 3; file < 12; file++) {
            x.addFile();
        }
        String full = Check.stateOf(x);
        Check.noState("27 there are 12", () -> x.join(0, 1, 0));
        Check.noState("27 there are 12", () -> x.join(5, 6, 0));
        Check.noArgument("27 how ahead of 12", () -> x.join(0, 1, 4));
        Check.noFile("27 file ahead of 12", () -> x.join(0, 12, 4));
        Check.due("27 nothing changed", full, () -> Check.stateOf(x));
    }

    private static void splitSmall() {
        MoraineSort x = new MoraineSort();
        Check.fileOf(x, 5, 1, 5, 2, 1, 9);
        Check.fileOf(x, 1, 7, 5, 1, 5, 5, 2, 3);
        Check.due("28 number", 2, () -> x.split(0, 1));
        Check.due("28 by the records of a, for each by those of b",
                "5:2 5:4 5:5 1:100 1:103 5:202 5:204 5:205 2:306 1:400 1:403",
                () -> Check.rowOf(x, 2, true));
        Check.due("14 read: 2 of the part, 2 of a", 4, () -> x.read());
        Check.due("15 written", 3, () -> x.written());
        Check.due("32 the same", 7, () -> x.splitCost(0, 1));
    }

    private static void splitOnce() {
        MoraineSort x = new MoraineSort();
        x.setMemory(2, 4);
        // FAN is 3, and there is room for 2 pages of b
        Check.fileOf(x, 1, -2, 3, 4);
        Check.fileOf(x, -1, 1, 4, 3, -2, 5);
        x.split(0, 1);
        // rows of a: 3 | 1 4 | -2; rows of b: 3 | -1 1 4 | -2 5
        Check.due("28 row by row", "3:203 1:1 4:302 -2:104", () -> Check.rowOf(x, 2, true));
        // read 2 and 3; then 1 and 1, 2 and 1, 1 and 1
        Check.due("14 read", 12, () -> x.read());
        // written 1 and 1, 1 and 2, 1 and 1; then 2
        Check.due("15 written", 9, () -> x.written());
        Check.due("32 the same", 21, () -> x.splitCost(0, 1));
    }

    private static void splitDeep() {
        MoraineSort x = new MoraineSort();
        x.setMemory(2, 3);
        // FAN is 2: keys 8 apart meet in one row at each depth, and there is room for 1 page
        Check.fileOf(x, 0, 8, 16);
        Check.fileOf(x, 8, 0, 16, -8);
        x.split(0, 1);
        // depth 0, 1, 2: read 2 and 2, written 2 and 2; depth 3: two parts, each 1 and 2 read
        Check.due("28 by parts of b", "0:1 8:100 16:202", () -> Check.rowOf(x, 2, true));
        Check.due("14 read", 3 * 4 + 2 * 3, () -> x.read());
        Check.due("15 written", 3 * 4 + 2, () -> x.written());
        Check.due("32 the same", 32, () -> x.splitCost(0, 1));
        Check.fileOf(x, 4, 8);
        Check.fileOf(x, 4, -4, 8);
        // depth 0, 1: read 1 and 2, written 1 and 2; depth 2: read 1 and 2, written 1, 1, 1, 1
        // depth 3: row 0 (8): 1 and 1; row 1 (4 and 4 -4): 1 and 1; the new file: 1
        Check.due("32 the third digit", 3 + 3 + 3 + 3 + 3 + 4 + 2 + 2 + 1, () -> x.splitCost(3, 4));
        x.split(3, 4);
        Check.due("28 the row of 8 first", "8:102 4:0", () -> Check.rowOf(x, 5, true));
    }

    private static void splitParts() {
        MoraineSort x = new MoraineSort();
        x.setMemory(2, 3);
        Check.fileOf(x, 0, 0);
        Check.fileOf(x, 0, 0, 0, 0, 0);
        x.split(0, 1);
        Check.due("28 part by part", "0:0 0:1 0:100 0:101 0:2 0:3 0:102 0:103 0:4 0:104",
                () -> Check.rowOf(x, 2, true));
        // three depths: read 1 and 3, written 1 and 3; three parts: 1 and 1 each; the new file: 5
        Check.due("14 read", 12 + 6, () -> x.read());
        Check.due("15 written", 12 + 5, () -> x.written());
    }

    private static void splitEmpty() {
        MoraineSort x = new MoraineSort();
        x.addFile();
        Check.fileOf(x, 1, 2, 3);
        Check.due("28 b is empty", 2, () -> x.split(1, 0));
        Check.due("28 a is empty", 3, () -> x.split(0, 1));
        Check.due("28 both", 4, () -> x.split(0, 0));
        Check.due("28 nothing", 0, () -> x.size(2) + x.size(3) + x.size(4));
        Check.due("14 nothing read", 0, () -> x.read());
        Check.due("15 nothing written", 0, () -> x.written());
        Check.due("32 nothing", 0, () -> x.splitCost(0, 1));
    }

    private static void splitExceptions() {
        MoraineSort x = twoFiles();
        x.addFile();
        x.putRow(2, 5, 0, 999, 120);
        String before = Check.stateOf(x);
        for (int wrong : new int[] {-1, 3, Integer.MIN_VALUE, Integer.MAX_VALUE}) {
            Check.noFile("28 one", () -> x.split(wrong, 0));
            Check.noFile("28 other", () -> x.split(0, wrong));
        }
        Check.noState("28 too many", () -> x.split(2, 2));
        Check.due("28 nothing changed", before, () -> Check.stateOf(x));
        for (int file = 3; file < 12; file++) {
            x.addFile();
        }
        String full = Check.stateOf(x);
        Check.noState("28 there are 12", () -> x.split(0, 1));
        Check.noState("28 there are 12", () -> x.split(5, 5));
        Check.noFile("28 file ahead of 12", () -> x.split(12, 0));
        Check.due("28 nothing changed", full, () -> Check.stateOf(x));
    }

    private static void groupHows() {
        String[] due = {"-4:1 2:3 7:2", "-4:50 2:7000 7:19", "-4:50 2:100 7:9", "-4:50 2:9900 7:10"};
        for (int how = 0; how < 4; how++) {
            MoraineSort x = new MoraineSort();
            x.addFile();
            x.put(0, -4, 50);
            x.put(0, 2, 7000);
            x.put(0, 2, 100);
            x.put(0, 2, 9900);
            x.put(0, 7, 10);
            x.put(0, 7, 9);
            int number = how;
            Check.due("29 number", 1, () -> x.group(0, number));
            Check.due("29 row", due[how], () -> Check.rowOf(x, 1, true));
            Check.due("14 read", 2, () -> x.read());
            Check.due("15 written", 1, () -> x.written());
        }
    }

    private static void groupDown() {
        MoraineSort x = new MoraineSort();
        x.setMemory(2, 3);
        Check.fileOf(x, 9, 9, 4, 1, 1, 1);
        x.group(0, 0);
        Check.due("29 in the order of the file", "9:2 4:1 1:3", () -> Check.rowOf(x, 1, true));
        Check.due("11 down", 2, () -> x.order(1));
        Check.due("14 read", 3, () -> x.read());
        Check.due("15 written", 2, () -> x.written());
        x.addFile();
        x.putRow(2, 3, 0, 999, 120);
        x.group(2, 0);
        Check.due("29 all the same", "3:120", () -> Check.rowOf(x, 3, true));
        x.group(2, 3);
        Check.due("29 the greatest", "3:99", () -> Check.rowOf(x, 4, true));
    }

    private static void groupEmpty() {
        MoraineSort x = new MoraineSort();
        x.addFile();
        Check.due("29 number", 1, () -> x.group(0, 1));
        Check.due("29 empty", 0, () -> x.size(1));
        Check.due("14 nothing read", 0, () -> x.read());
        Check.due("15 nothing written", 0, () -> x.written());
    }

    private static void groupExceptions() {
        MoraineSort x = twoFiles();
        Check.fileOf(x, 1, 2, 1);
        String before = Check.stateOf(x);
        for (int wrong : new int[] {-1, 4, Integer.MIN_VALUE, Integer.MAX_VALUE}) {
            Check.noFile("29 file", () -> x.group(wrong, 0));
            Check.noFile("29 file ahead of how", () -> x.group(wrong, wrong));
            Check.noArgument("29 how", () -> x.group(0, wrong));
            Check.noArgument("29 how ahead of order", () -> x.group(2, wrong));
        }
        Check.noState("29 neither up nor down", () -> x.group(2, 0));
        Check.due("29 nothing changed", before, () -> Check.stateOf(x));
        for (int file = 3; file < 12; file++) {
            x.addFile();
        }
        String full = Check.stateOf(x);
        Check.noState("29 there are 12", () -> x.group(0, 0));
        Check.noArgument("29 how ahead of 12", () -> x.group(0, 4));
        Check.noFile("29 file ahead of 12", () -> x.group(12, 0));
        Check.due("29 nothing changed", full, () -> Check.stateOf(x));
    }
}
