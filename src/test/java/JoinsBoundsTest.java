/** Promises 27 to 29, with paragraphs 4 and 5 of the terms, at their bounds. */
public final class JoinsBoundsTest {
    public static void main(String[] args) {
        joinWithoutRecords();
        joinOneRecord();
        joinHowAtItsBounds();
        joinLeastAndGreatestKey();
        joinTheKey0();
        joinMarks();
        joinSpillsOneMoreThanTheRoom();
        joinSpillsWithTheGreatestMemory();
        joinSpillsWithTheGreatestPage();
        joinSpillsForTwoOfA();
        joinSpillsNothingByHow2And3();
        joinSpillsByTheKey();
        joinSpillsForEachKey();
        joinSpillsTheFirstAndLastKey();
        joinJust120();
        joinOneMoreThan120();
        joinKeepsA120();
        joinTheTwelfthFile();
        joinWithItself();
        splitWithoutRecords();
        splitRoomForB();
        splitRoomForBWithTheGreatestMemory();
        splitLooksAtBAlone();
        splitRowsWithoutPairs();
        splitTheSign();
        splitEachDepth();
        splitStopsAtDepth3();
        splitPartsOfB();
        splitGreatestFan();
        splitMarks();
        splitJust120();
        splitTheTwelfthFile();
        splitWithItself();
        groupWithoutRecords();
        groupOneRecord();
        groupHowAtItsBounds();
        groupSums();
        groupLeastAndGreatestMark();
        groupUpAndDown();
        groupTheKey0();
        groupFull();
        groupTheTwelfthFile();
        groupPages();
        Check.end("JoinsBoundsTest");
    }

    /** One with two files: so many records each, all with the key 5. */
    private static MoraineSort same(int page, int memory, int ofA, int ofB) {
        MoraineSort x = new MoraineSort();
        x.setMemory(page, memory);
        Check.sameOf(x, 5, ofA);
        Check.sameOf(x, 5, ofB);
        return x;
    }

    private static MoraineSort two(int page, int memory, int[] a, int[] b) {
        MoraineSort x = new MoraineSort();
        x.setMemory(page, memory);
        Check.fileOf(x, a);
        Check.fileOf(x, b);
        return x;
    }

    private static int[] keys(int... keys) {
        return keys;
    }

    private static String joined(MoraineSort x, int how) {
        x.join(0, 1, how);
        return Check.countsOf(x);
    }

    private static String split(MoraineSort x) {
        x.split(0, 1);
        return Check.countsOf(x);
    }

    private static String markOf(int ofA, int ofB, boolean isSplit) {
        MoraineSort x = Given.empties(2);
        x.put(0, 8, ofA);
        x.put(1, 8, ofB);
        int file = isSplit ? x.split(0, 1) : x.join(0, 1, 0);
        return Check.rowOf(x, file, true);
    }

    // ---- promise 27

    private static void joinWithoutRecords() {
        String[] withoutA = {"1 0 0", "1 0 0", "1 0 0", "1 0 0"};
        String[] withoutB = {"1 0 0", "1 1 0", "1 0 0", "1 1 0"};
        String[] rows = {"", "1:0 2:1", "", "1:0 2:1"};
        for (int how = 0; how < 4; how++) {
            int some = how;
            MoraineSort x = two(4, 4, keys(), keys(1, 2));
            Check.due("27 a without records, how " + how, withoutA[how], () -> joined(x, some));
            Check.due("27 none come", "", () -> Check.rowOf(x, 2, true));
            MoraineSort y = two(4, 4, keys(1, 2), keys());
            Check.due("27 b without records, how " + how, withoutB[how], () -> joined(y, some));
            Check.due("27 those of a", rows[how], () -> Check.rowOf(y, 2, true));
            MoraineSort z = two(4, 4, keys(), keys());
            Check.due("27 both without records, how " + how, "0 0 0", () -> joined(z, some));
        }
    }

    private static void joinOneRecord() {
        String[] pairs = {"7:0", "7:0", "7:0", ""};
        String[] less = {"", "6:0", "", "6:0"};
        for (int how = 0; how < 4; how++) {
            MoraineSort x = two(2, 3, keys(7), keys(7));
            x.join(0, 1, how);
            Check.due("27 the same key, how " + how, pairs[how], () -> Check.rowOf(x, 2, true));
            MoraineSort y = two(2, 3, keys(6), keys(7));
            y.join(0, 1, how);
            Check.due("27 one less, how " + how, less[how], () -> Check.rowOf(y, 2, true));
            MoraineSort z = two(2, 3, keys(6), keys(5));
            z.join(0, 1, how);
            Check.due("27 one more, how " + how, less[how], () -> Check.rowOf(z, 2, true));
        }
    }

    private static void joinHowAtItsBounds() {
        String[] due = {"2:100 2:200", "1:0 2:100 2:200 3:3", "2:1 2:2", "1:0 3:3"};
        for (int how = 0; how < 4; how++) {
            int some = how;
            MoraineSort x = two(2, 3, keys(1, 2, 2, 3), keys(2, 4));
            Check.due("27 number, how " + how, 2, () -> x.join(0, 1, some));
            Check.due("27 how " + how, due[how], () -> Check.rowOf(x, 2, true));
        }
    }

    private static void joinLeastAndGreatestKey() {
        MoraineSort x = two(2, 3, keys(-999, -999, -1, 1, 999), keys(-999, 0, 1, 999, 999));
        x.join(0, 1, 0);
        Check.due("27 pairs of the least and the greatest", "-999:0 -999:100 1:302 999:403 999:404",
                () -> Check.rowOf(x, 2, true));
        x.join(0, 1, 3);
        Check.due("27 the sign counts", "-1:2", () -> Check.rowOf(x, 3, true));
    }

    private static void joinTheKey0() {
        MoraineSort x = two(2, 3, keys(0, 1), keys(0, 0, 0));
        x.join(0, 1, 1);
        Check.due("27 0 is a key ahead of all others", "0:0 0:1 0:2 1:1",
                () -> Check.rowOf(x, 2, true));
        MoraineSort y = two(2, 3, keys(-1, 0), keys(0, 0, 0));
        y.join(0, 1, 1);
        Check.due("27 and behind all others", "-1:0 0:100 0:101 0:102",
                () -> Check.rowOf(y, 2, true));
        Check.due("27 one of a has it: 1 and 2 read, 2 written, none spilt", "3 2 0",
                () -> Check.countsOf(y));
    }

    private static void joinMarks() {
        Check.due("27 least marks", "8:0", () -> markOf(0, 0, false));
        Check.due("27 the greatest of b", "8:9999", () -> markOf(0, 9999, false));
        Check.due("27 just below 10000", "8:9999", () -> markOf(99, 99, false));
        Check.due("27 just 10000", "8:0", () -> markOf(99, 100, false));
        Check.due("27 just 10000 of a alone", "8:0", () -> markOf(100, 0, false));
        Check.due("27 the greatest of both", "8:9899", () -> markOf(9999, 9999, false));
    }

    // ---- what is spilt

    private static void joinSpillsOneMoreThanTheRoom() {
        for (int how = 0; how < 2; how++) {
            int some = how;
            Check.due("27 two of b in room for 2, how " + how, "2 2 0",
                    () -> joined(same(2, 3, 2, 2), some));
            // 1 and 2 read, 2 for each of two; 2 spilt and 3 of the new file written
            Check.due("27 three of b, room for 2, how " + how, "7 5 2",
                    () -> joined(same(2, 3, 2, 3), some));
        }
        Check.due("27 four of b, room for 4", "3 4 0", () -> joined(same(2, 4, 2, 4), 0));
        // 1 and 3 read, 3 for each of two; 3 spilt and 5 written
        Check.due("27 five of b, room for 4", "10 8 3", () -> joined(same(2, 4, 2, 5), 0));
    }

    private static void joinSpillsWithTheGreatestMemory() {
        Check.due("27 20 of b, room for 20", "11 20 0", () -> joined(same(2, 12, 2, 20), 0));
        // 1 and 11 read, 11 for each of two; 11 spilt and 21 written
        Check.due("27 21 of b, room for 20", "34 32 11", () -> joined(same(2, 12, 2, 21), 0));
    }

    private static void joinSpillsWithTheGreatestPage() {
        Check.due("27 10 of b, room for 10", "2 2 0", () -> joined(same(10, 3, 2, 10), 0));
        // 1 and 2 read, 2 for each of two; 2 spilt and 3 written
        Check.due("27 11 of b, room for 10", "7 5 2", () -> joined(same(10, 3, 2, 11), 0));
        Check.due("27 60 of b, room for 100", "7 12 0", () -> joined(same(10, 12, 2, 60), 0));
    }

    private static void joinSpillsForTwoOfA() {
        Check.due("27 one of a", "3 2 0", () -> joined(same(2, 3, 1, 3), 0));
        Check.due("27 two of a", "7 5 2", () -> joined(same(2, 3, 2, 3), 0));
        // 2 and 2 read, 2 for each of three; 2 spilt and 5 written
        Check.due("27 three of a", "10 7 2", () -> joined(same(2, 3, 3, 3), 0));
        Check.due("27 none of a", "3 1 0",
                () -> joined(two(2, 3, keys(4, 4), keys(5, 5, 5)), 1));
    }

    private static void joinSpillsNothingByHow2And3() {
        Check.due("27 how 2", "3 1 0", () -> joined(same(2, 3, 2, 3), 2));
        Check.due("27 how 3", "3 0 0", () -> joined(same(2, 3, 2, 3), 3));
    }

    private static void joinSpillsByTheKey() {
        Check.due("27 two and two of b, room for 2", "4 4 0",
                () -> joined(two(2, 3, keys(5, 5, 6, 6), keys(5, 5, 6, 6)), 0));
        // 2 and 2 read; 1, three pairs and one pair written
        Check.due("27 three of a, each with its own key", "4 3 0",
                () -> joined(two(2, 3, keys(4, 5, 6), keys(5, 5, 5, 6)), 1));
    }

    private static void joinSpillsForEachKey() {
        // 3 and 3 read, 2 for each of two and of three; 2 and 2 spilt, 8 written
        Check.due("27 two keys", "16 12 4",
                () -> joined(two(2, 3, keys(5, 5, 6, 6, 6), keys(5, 5, 5, 6, 6, 6)), 0));
    }

    private static void joinSpillsTheFirstAndLastKey() {
        // 2 and 2 read, 2 for each of two; 2 spilt and 4 written
        Check.due("27 behind keys without pairs", "8 6 2",
                () -> joined(two(2, 3, keys(1, 5, 5), keys(2, 5, 5, 5)), 1));
        Check.due("27 ahead of keys without pairs", "8 6 2",
                () -> joined(two(2, 3, keys(5, 5, 9), keys(5, 5, 5, 8)), 1));
        Check.due("27 the least key", "7 5 2",
                () -> joined(two(2, 3, keys(-999, -999), keys(-999, -999, -999)), 0));
        Check.due("27 the greatest key", "7 5 2",
                () -> joined(two(2, 3, keys(999, 999), keys(999, 999, 999)), 0));
    }

    // ---- how many come

    private static void joinJust120() {
        for (int how = 0; how < 2; how++) {
            MoraineSort x = same(10, 12, 10, 12);
            x.join(0, 1, how);
            Check.due("27 just 120, how " + how, 120, () -> x.size(2));
            Check.due("27 the last one", 911, () -> x.at(2, 119, true));
        }
        MoraineSort y = same(10, 12, 10, 11);
        y.put(0, 6, 77);
        Check.due("27 111 by how 1", 2, () -> y.join(0, 1, 1));
        for (int more = 0; more < 9; more++) {
            y.put(0, 6, 77);
        }
        Check.due("27 just 120 by how 1", 3, () -> y.join(0, 1, 1));
        Check.due("27 the last one without a pair", 77, () -> y.at(3, 119, true));
    }

    private static void joinOneMoreThan120() {
        Check.Maker elevens = () -> same(2, 3, 11, 11);
        Check.refused("27 121 by how 0", Check.NO_STATE, elevens, x -> x.join(0, 1, 0));
        Check.refused("27 121 by how 1", Check.NO_STATE, elevens, x -> x.join(0, 1, 1));
        Check.Maker behind = () -> {
            MoraineSort x = same(10, 12, 10, 12);
            x.put(0, 6, 0);
            return x;
        };
        Check.refused("27 120 and one without a pair", Check.NO_STATE, behind,
                x -> x.join(0, 1, 1));
        Check.due("27 not by how 0", 2, () -> behind.make().join(0, 1, 0));
        Check.refused("27 14400", Check.NO_STATE, () -> same(2, 3, 120, 120), x -> x.join(0, 1, 0));
    }

    private static void joinKeepsA120() {
        MoraineSort x = same(2, 3, 120, 120);
        x.addFile();
        Check.due("27 120 that have pairs", 3, () -> x.join(0, 1, 2));
        Check.due("27 how 2 of 120", 120, () -> x.size(3));
        Check.due("27 120 that have none", 4, () -> x.join(0, 2, 3));
        Check.due("27 how 3 of 120", 120, () -> x.size(4));
        Check.due("27 120 without pairs", 5, () -> x.join(0, 2, 1));
        Check.due("27 how 1 of 120", 120, () -> x.size(5));
        Check.due("27 none have none", 6, () -> x.join(0, 1, 3));
        Check.due("27 how 3 of none", 0, () -> x.size(6));
    }

    private static void joinTheTwelfthFile() {
        for (int how = 0; how < 4; how++) {
            int some = how;
            MoraineSort x = Given.twelve();
            x.drop();
            Check.due("27 the twelfth, how " + how, 11,
                    () -> x.join(Given.UP, Given.OTHER_UP, some));
            Check.noState("27 not one more, how " + how,
                    () -> x.join(Given.UP, Given.OTHER_UP, some));
        }
    }

    private static void joinWithItself() {
        MoraineSort x = new MoraineSort();
        x.setMemory(2, 3);
        Check.fileOf(x, 1, 2, 2);
        Check.due("27 number", 1, () -> x.join(0, 0, 0));
        Check.due("27 with itself", "1:0 2:101 2:102 2:201 2:202", () -> Check.rowOf(x, 1, true));
        Check.due("27 read twice", "4 3 0", () -> Check.countsOf(x));
        MoraineSort y = new MoraineSort();
        y.setMemory(2, 3);
        Check.sameOf(y, 2, 3);
        y.join(0, 0, 1);
        // 2 and 2 read, 2 for each of three; 2 spilt and 5 written
        Check.due("27 with itself spilt", "10 7 2", () -> Check.countsOf(y));
    }

    // ---- promise 28

    private static void splitWithoutRecords() {
        Check.due("28 a without records", "0 0 0", () -> split(same(2, 3, 0, 7)));
        Check.due("28 b without records", "0 0 0", () -> split(same(2, 3, 7, 0)));
        Check.due("28 both without records", "0 0 0", () -> split(same(2, 3, 0, 0)));
        Check.due("28 none with the same key", "2 0 0",
                () -> split(two(2, 3, keys(1), keys(2))));
    }

    private static void splitRoomForB() {
        // 1 of b and 2 of a read
        Check.due("28 b of 1 page, room for 1", "3 1 0",
                () -> split(two(2, 3, keys(1, 2, 3), keys(1, 2))));
        // 2 and 2 read and written; 1 and 1 of each row read; 2 of the new file
        Check.due("28 b of 2 pages, room for 1", "8 6 0",
                () -> split(two(2, 3, keys(1, 2, 3), keys(1, 2, 3))));
        Check.due("28 b of 2 pages, room for 2", "4 2 0",
                () -> split(two(2, 4, keys(1, 2, 3), keys(1, 2, 3))));
    }

    private static MoraineSort oneAndMany(int many) {
        MoraineSort x = new MoraineSort();
        x.setMemory(10, 12);
        Check.fileOf(x, 0);
        x.addFile();
        x.putRow(1, 0, 1, 999, many);
        return x;
    }

    private static void splitRoomForBWithTheGreatestMemory() {
        Check.due("28 b of 10 pages, room for 10", "11 1 0", () -> split(oneAndMany(100)));
        // 1 and 11 read, 1 and 11 rows written; 1 and 1 of the row 0 read; 1 of the new file
        Check.due("28 b of 11 pages, room for 10", "14 13 0", () -> split(oneAndMany(101)));
        Check.due("28 full b", "14 13 0", () -> split(oneAndMany(110)));
    }

    private static void splitLooksAtBAlone() {
        MoraineSort x = Given.falling(2, 3, 120);
        Check.fileOf(x, 1, 2);
        // 1 of b and 60 of a
        Check.due("28 a is large", "61 1 0", () -> split(x));
        MoraineSort y = new MoraineSort();
        y.setMemory(2, 3);
        Check.fileOf(y, 1);
        y.addFile();
        y.putRow(1, 120, -1, 999, 120);
        y.split(0, 1);
        // 1 and 60, written 1, 30, 30; of row 1: 1 and 30, written 1, 15, 15;
        // of its row 0 (1 5 9 ..): 1 and 15, written 1, 8, 8; at depth 3 (1 9 17 ..) 8 parts
        Check.due("28 b is large", (61 + 31 + 16 + 8 * 2) + " " + (61 + 31 + 17 + 1) + " 0",
                () -> Check.countsOf(y));
    }

    private static void splitRowsWithoutPairs() {
        Check.due("28 no row has records of both", "3 3 0",
                () -> split(two(2, 3, keys(1), keys(2, 4, 6))));
        // then the row 1 alone: 1 and 1
        Check.due("28 one row has records of both", "5 5 0",
                () -> split(two(2, 3, keys(1), keys(1, 2, 4, 6))));
    }

    private static void splitTheSign() {
        MoraineSort x = two(2, 3, keys(-1, 1), keys(1, -1, 3));
        // 1 and 2, written 1 and 2; the same of row 1, written 1, 1, 1; 1 and 1; 1 written
        Check.due("28 keys without their sign", "8 7 0", () -> split(x));
        Check.due("28 but pairs with it", "-1:1 1:100", () -> Check.rowOf(x, 2, true));
    }

    /** The keys are told apart by one digit; b has three of each, and there is room for two. */
    private static void splitEachDepth() {
        MoraineSort x = two(2, 3, keys(1, 0), keys(1, 0, 1));
        // 1 and 2, written 1, 1, 1, 1; 1 and 1 of each row
        Check.due("28 told apart at depth 0", "7 6 0", () -> split(x));
        Check.due("28 row 0 first", "0:101 1:0 1:2", () -> Check.rowOf(x, 2, true));
        MoraineSort y = two(2, 3, keys(2, 0), keys(2, 0, 2));
        Check.due("28 told apart at depth 1", "10 9 0", () -> split(y));
        Check.due("28 row 0 first", "0:101 2:0 2:2", () -> Check.rowOf(y, 2, true));
        MoraineSort z = two(2, 3, keys(4, 0), keys(4, 0, 4));
        Check.due("28 told apart at depth 2", "13 12 0", () -> split(z));
        Check.due("28 row 0 first", "0:101 4:0 4:2", () -> Check.rowOf(z, 2, true));
    }

    private static void splitStopsAtDepth3() {
        MoraineSort x = two(2, 3, keys(8, 0), keys(8, 0, 8));
        // three times 1 and 2, written 1 and 2; then parts of 2 and 1: 1 and 1 each; 2 written
        Check.due("28 no depth 4", "13 11 0", () -> split(x));
        Check.due("28 part by part", "8:0 0:101 8:2", () -> Check.rowOf(x, 2, true));
    }

    private static void splitPartsOfB() {
        Check.due("28 two of b do not get there", "2 1 0", () -> split(same(2, 3, 1, 2)));
        Check.due("28 parts of 2 and 1", "13 11 0", () -> split(same(2, 3, 1, 3)));
        Check.due("28 parts of 2 and 2", "13 11 0", () -> split(same(2, 3, 1, 4)));
        // three times 1 and 3; then 2, 2, 1: 1 and 1 each; 3 written
        Check.due("28 parts of 2, 2 and 1", "18 15 0", () -> split(same(2, 3, 1, 5)));
        // three times 1 and 3; then 4 and 1: 2 and 1, 1 and 1; 3 written
        Check.due("28 parts of 4 and 1", "17 15 0", () -> split(same(2, 4, 1, 5)));
    }

    private static void splitGreatestFan() {
        MoraineSort x = same(10, 12, 1, 101);
        // three times 1 and 11, written 1 and 11; then 100 and 1: 10 and 1, 1 and 1; 11 written
        Check.due("28 parts of 100 and 1", "49 47 0", () -> split(x));
        MoraineSort y = new MoraineSort();
        y.setMemory(10, 12);
        Check.fileOf(y, 999, -999);
        Check.sameOf(y, -999, 60);
        y.putRow(1, 0, 11, 999, 41);
        y.split(0, 1);
        // 999 has the digits 9, 2, 8 by 11: at depth 0 row 9 has the 60 alone: 6 and 1 read
        // 1 and 11 read; 1, 6 and 5 written; 6 written
        Check.due("28 the greatest key", "19 18 0", () -> Check.countsOf(y));
    }

    private static void splitMarks() {
        Check.due("28 least marks", "8:0", () -> markOf(0, 0, true));
        Check.due("28 just below 10000", "8:9999", () -> markOf(99, 99, true));
        Check.due("28 just 10000", "8:0", () -> markOf(99, 100, true));
        Check.due("28 the greatest of both", "8:9899", () -> markOf(9999, 9999, true));
    }

    private static void splitJust120() {
        MoraineSort x = same(2, 3, 10, 12);
        Check.due("28 just 120", 2, () -> x.split(0, 1));
        Check.due("28 120", 120, () -> x.size(2));
        Check.due("28 the last one", 911, () -> x.at(2, 119, true));
        Check.refused("28 121", Check.NO_STATE, () -> same(2, 3, 11, 11), y -> y.split(0, 1));
        Check.refused("28 14400", Check.NO_STATE, () -> same(2, 3, 120, 120), y -> y.split(0, 1));
    }

    private static void splitTheTwelfthFile() {
        MoraineSort x = Given.twelve();
        x.drop();
        Check.due("28 the twelfth", 11, () -> x.split(Given.NEITHER, Given.OTHER_UP));
        Check.noState("28 not one more", () -> x.split(Given.NEITHER, Given.OTHER_UP));
    }

    private static void splitWithItself() {
        MoraineSort x = new MoraineSort();
        x.setMemory(2, 3);
        Check.fileOf(x, 3, 1, 3);
        Check.due("28 number", 1, () -> x.split(0, 0));
        // 2 and 2, written 2 and 2; of row 1 2 and 2, written 1, 1, 1, 1; 1 and 1 of each of two;
        // 3 written
        Check.due("28 with itself", "12 11 0", () -> Check.countsOf(x));
        Check.due("28 not up", "1:101 3:0 3:2 3:200 3:202", () -> Check.rowOf(x, 1, true));
    }

    // ---- promise 29

    private static void groupWithoutRecords() {
        for (int how = 0; how < 4; how++) {
            int some = how;
            MoraineSort x = Given.empties(1);
            Check.due("29 number, how " + how, 1, () -> x.group(0, some));
            Check.due("29 without records", 0, () -> x.size(1));
            Check.due("29 nothing is read or written", "0 0 0", () -> Check.countsOf(x));
        }
    }

    private static void groupOneRecord() {
        String[] due = {"-999:1", "-999:9999", "-999:9999", "-999:9999"};
        for (int how = 0; how < 4; how++) {
            MoraineSort x = Given.empties(1);
            x.put(0, -999, 9999);
            x.group(0, how);
            Check.due("29 one record, how " + how, due[how], () -> Check.rowOf(x, 1, true));
            Check.due("29 one page", "1 1 0", () -> Check.countsOf(x));
        }
    }

    private static MoraineSort withMarks(int... marks) {
        MoraineSort x = Given.empties(1);
        for (int mark : marks) {
            x.put(0, 7, mark);
        }
        return x;
    }

    private static String grouped(MoraineSort x, int how) {
        return Check.rowOf(x, x.group(0, how), true);
    }

    private static void groupHowAtItsBounds() {
        String[] due = {"7:3", "7:18", "7:5", "7:7"};
        for (int how = 0; how < 4; how++) {
            int some = how;
            Check.due("29 how " + how, due[how], () -> grouped(withMarks(6, 5, 7), some));
        }
    }

    private static void groupSums() {
        Check.due("29 just below 10000", "7:9999", () -> grouped(withMarks(9998, 1), 1));
        Check.due("29 just 10000", "7:0", () -> grouped(withMarks(9999, 1), 1));
        Check.due("29 just 20000", "7:0", () -> grouped(withMarks(9999, 9999, 2), 1));
        MoraineSort x = Given.empties(1);
        for (int i = 0; i < 120; i++) {
            x.put(0, 7, 9999);
        }
        Check.due("29 the greatest sum", "7:9880", () -> grouped(x, 1));
    }

    private static void groupLeastAndGreatestMark() {
        Check.due("29 least ahead", "7:0", () -> grouped(withMarks(0, 9999), 2));
        Check.due("29 least behind", "7:0", () -> grouped(withMarks(9999, 0), 2));
        Check.due("29 greatest ahead", "7:9999", () -> grouped(withMarks(9999, 0), 3));
        Check.due("29 greatest behind", "7:9999", () -> grouped(withMarks(0, 9999), 3));
    }

    private static void groupUpAndDown() {
        MoraineSort x = new MoraineSort();
        Check.fileOf(x, -999, -1, -1, 0, 1, 999, 999);
        Check.fileOf(x, 999, 999, 1, 0, -1, -1, -999);
        Check.fileOf(x, 4, 4);
        x.group(0, 0);
        x.group(1, 0);
        x.group(2, 0);
        Check.due("29 up", "-999:1 -1:2 0:1 1:1 999:2", () -> Check.rowOf(x, 3, true));
        Check.due("29 down", "999:2 1:1 0:1 -1:2 -999:1", () -> Check.rowOf(x, 4, true));
        Check.due("29 both", "4:2", () -> Check.rowOf(x, 5, true));
    }

    private static void groupTheKey0() {
        for (int how = 1; how < 4; how++) {
            int some = how;
            MoraineSort x = Given.empties(1);
            x.put(0, 0, 33);
            x.put(0, 1, 44);
            Check.due("29 0 is a key ahead, how " + how, "0:33 1:44", () -> grouped(x, some));
            MoraineSort y = Given.empties(1);
            y.put(0, 0, 33);
            Check.due("29 and alone, how " + how, "0:33", () -> grouped(y, some));
            MoraineSort z = Given.empties(1);
            z.put(0, -1, 44);
            z.put(0, 0, 33);
            Check.due("29 and behind, how " + how, "-1:44 0:33", () -> grouped(z, some));
        }
    }

    private static void groupFull() {
        MoraineSort x = same(2, 3, 120, 0);
        Check.due("29 all the same", "5:120", () -> grouped(x, 0));
        Check.due("29 60 pages read, one written", "60 1 0", () -> Check.countsOf(x));
        MoraineSort y = Given.falling(10, 3, 120);
        y.group(0, 3);
        Check.due("29 all different", 120, () -> y.size(1));
        Check.due("29 the marks as they are", 19, () -> y.at(1, 119, true));
        Check.due("29 12 pages read and written", "12 12 0", () -> Check.countsOf(y));
    }

    private static void groupTheTwelfthFile() {
        for (int how = 0; how < 4; how++) {
            int some = how;
            MoraineSort x = Given.twelve();
            x.drop();
            Check.due("29 the twelfth, how " + how, 11, () -> x.group(Given.FULL, some));
            Check.noState("29 not one more, how " + how, () -> x.group(Given.FULL, some));
        }
    }

    private static void groupPages() {
        MoraineSort x = new MoraineSort();
        Check.fileOf(x, 1, 2, 3, 4);
        x.group(0, 0);
        Check.due("29 a whole page", "1 1 0", () -> Check.countsOf(x));
        x.put(0, 4, 0);
        x.group(0, 0);
        Check.due("29 two pages read, one written", "3 2 0", () -> Check.countsOf(x));
        x.put(0, 5, 0);
        x.group(0, 0);
        Check.due("29 two pages read and written", "5 4 0", () -> Check.countsOf(x));
    }
}
