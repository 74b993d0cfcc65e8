/** Promises 17 to 21 and paragraph 2 of the terms at their bounds. */
public final class SortingBoundsTest {
    public static void main(String[] args) {
        promise17WithoutRecords();
        promise17OneRecord();
        promise17LeastAndGreatestKey();
        promise17SameKeysStayInOrder();
        promise17TheTwelfthFile();
        promise17OfTheLastFile();
        promise17TheFileItselfStays();
        promise17ItsRecordsAlone();
        loadingAtTheLeastRoom();
        loadingAtTheGreatestRoom();
        replacingAtTheLeastRoom();
        replacingAtTheGreatestRoom();
        replacingFreezesOneLess();
        replacingDownFreezesOneGreater();
        replacingLooksAtTheOneThatWent();
        replacingLetsThatGoWhichCame();
        replacingGoesOnWithoutNextRecords();
        replacingMeltsAllForANewRun();
        levelsAtFan();
        levelsLeaveOneAlone();
        levelsCountNothingOfOneAlone();
        leastOfFirst();
        leastWithFanTwo();
        leastWithFanEleven();
        leastTakesTheFewest();
        pagesThatAreNotFull();
        promises18And20WithoutASort();
        promises18And20OfAFileWithoutRecords();
        promises18To21OfTheLatest();
        promise18FullOne();
        promise19FirstAndLast();
        promise21FirstAndLast();
        Check.end("SortingBoundsTest");
    }

    private static String waysOf(int way) {
        return ((way & 1) != 0 ? "replacing" : "loading") + ((way & 2) != 0 ? " least" : " levels")
                + ((way & 4) != 0 ? " down" : " up");
    }

    /** Sorts file 0 in one of eight ways: replacing is 1, the least 2, down 4. */
    private static int sort(MoraineSort x, int way) {
        return x.sort(0, (way & 1) != 0, (way & 2) != 0, (way & 4) != 0);
    }

    private static String runsOf(MoraineSort x, boolean isReplacing, boolean isDown) {
        x.sort(0, isReplacing, false, isDown);
        return Check.runsOf(x);
    }

    private static String runsOfKeys(boolean isDown, int... keys) {
        MoraineSort x = new MoraineSort();
        x.setMemory(2, 3);
        Check.fileOf(x, keys);
        return runsOf(x, true, isDown);
    }

    private static String mergesOf(MoraineSort x, boolean isLeast) {
        x.sort(0, false, isLeast, false);
        return Check.mergesOf(x);
    }

    // ---- promise 17

    private static void promise17WithoutRecords() {
        for (int way = 0; way < 8; way++) {
            int some = way;
            MoraineSort x = Given.empties(1);
            Check.due("17 number " + waysOf(way), 1, () -> sort(x, some));
            Check.due("17 without records", 0, () -> x.size(1));
            Check.due("17 no runs, no merges", "0 0", () -> x.runs() + " " + x.merges());
            Check.due("17 nothing is read or written", "0 0 0", () -> Check.countsOf(x));
        }
    }

    private static void promise17OneRecord() {
        for (int way = 0; way < 8; way++) {
            int some = way;
            MoraineSort x = new MoraineSort();
            x.addFile();
            x.put(0, -5, 9999);
            Check.due("17 number " + waysOf(way), 1, () -> sort(x, some));
            Check.due("17 the record", "-5:9999", () -> Check.rowOf(x, 1, true));
            Check.due("17 one run", "1", () -> Check.runsOf(x));
            Check.due("17 no merge", "", () -> Check.mergesOf(x));
            Check.due("17 one page", "1 1 0", () -> Check.countsOf(x));
        }
    }

    private static void promise17LeastAndGreatestKey() {
        for (int way = 0; way < 8; way++) {
            MoraineSort x = new MoraineSort();
            x.setMemory(2, 3);
            Check.fileOf(x, 0, 999, -999, 998, -998, -1, 1, 999, -999);
            sort(x, way);
            String want = (way & 4) == 0 ? "-999:2 -999:8 -998:4 -1:5 0:0 1:6 998:3 999:1 999:7"
                    : "999:1 999:7 998:3 1:6 0:0 -1:5 -998:4 -999:2 -999:8";
            Check.due("17 keys " + waysOf(way), want, () -> Check.rowOf(x, 1, true));
        }
    }

    private static void promise17SameKeysStayInOrder() {
        for (int way = 0; way < 8; way++) {
            MoraineSort x = new MoraineSort();
            x.setMemory(2, 3);
            x.addFile();
            for (int place = 0; place < 120; place++) {
                x.put(0, place * 7 % 3, place);
            }
            sort(x, way);
            Check.due("17 all of them " + waysOf(way), 120, () -> x.size(1));
            Check.due("17 same keys " + waysOf(way), true, () -> marksRiseInEachKey(x, 1, 120));
            Check.due("17 order " + waysOf(way), (way & 4) == 0 ? 1 : 2, () -> x.order(1));
        }
    }

    private static boolean marksRiseInEachKey(MoraineSort x, int file, int size) {
        int keyAhead = 1000;
        int markAhead = -1;
        for (int place = 0; place < size; place++) {
            int key = x.at(file, place, false);
            int mark = x.at(file, place, true);
            if (key == keyAhead && mark <= markAhead) {
                return false;
            }
            keyAhead = key;
            markAhead = mark;
        }
        return true;
    }

    private static void promise17TheTwelfthFile() {
        MoraineSort x = Given.twelve();
        x.drop();
        Check.due("17 the next number", 11, () -> x.sort(Given.FULL, true, false, false));
        Check.due("17 the twelfth", 120, () -> x.size(11));
        Check.noState("17 not one more", () -> x.sort(Given.FULL, true, false, false));
    }

    private static void promise17OfTheLastFile() {
        MoraineSort x = Given.some();
        Check.due("17 of the last file", Given.FILES, () -> x.sort(Given.JOINED, true, true, true));
        Check.due("17 of that one", Given.FILES + 1, () -> x.sort(Given.FILES, true, true, true));
    }

    private static void promise17TheFileItselfStays() {
        MoraineSort x = Given.some();
        String before = Check.rowOf(x, Given.NEITHER, true);
        x.sort(Given.NEITHER, true, true, true);
        Check.due("17 the file stays", before, () -> Check.rowOf(x, Given.NEITHER, true));
    }

    private static void promise17ItsRecordsAlone() {
        MoraineSort x = Given.some();
        x.group(Given.UP, 0);
        Check.due("17 number", 9, () -> x.sort(Given.NEITHER, false, false, false));
        Check.due("17 nothing of what was made before", "1:1 2:3 4:0 9:2",
                () -> Check.rowOf(x, 9, true));
        x.sort(Given.NEITHER, true, true, true);
        Check.due("17 nor of the sort before", "9:2 4:0 2:3 1:1", () -> Check.rowOf(x, 10, true));
    }

    // ---- making runs

    private static void loadingAtTheLeastRoom() {
        int[] counts = {5, 6, 7, 12, 13, 120};
        String[] due = {"5", "6", "6 1", "6 6", "6 6 1", "6 6 6 6 6 6 6 6 6 6 6 6 6 6 6 6 6 6 6 6"};
        for (int i = 0; i < counts.length; i++) {
            int count = counts[i];
            Check.due("17 loading " + count + " to room for 6", due[i],
                    () -> runsOf(Given.falling(2, 3, count), false, false));
            Check.due("17 loading " + count + " to room for 6, down", due[i],
                    () -> runsOf(Given.falling(2, 3, count), false, true));
        }
    }

    private static void loadingAtTheGreatestRoom() {
        Check.due("17 loading 119 to room for 120", "119",
                () -> runsOf(Given.falling(10, 12, 119), false, false));
        Check.due("17 loading 120 to room for 120", "120",
                () -> runsOf(Given.falling(10, 12, 120), false, false));
        Check.due("17 loading 120 to room for 110", "110 10",
                () -> runsOf(Given.falling(10, 11, 120), false, false));
        Check.due("17 loading 120 to room for 108", "108 12",
                () -> runsOf(Given.falling(9, 12, 120), false, false));
    }

    private static void replacingAtTheLeastRoom() {
        int[] counts = {5, 6, 7, 12, 13, 120};
        String[] due = {"5", "6", "6 1", "6 6", "6 6 1", "6 6 6 6 6 6 6 6 6 6 6 6 6 6 6 6 6 6 6 6"};
        for (int i = 0; i < counts.length; i++) {
            int count = counts[i];
            Check.due("17 replacing " + count + ", all frozen", due[i],
                    () -> runsOf(Given.falling(2, 3, count), true, false));
            Check.due("17 replacing " + count + ", none frozen", "" + count,
                    () -> runsOf(Given.falling(2, 3, count), true, true));
        }
    }

    private static void replacingAtTheGreatestRoom() {
        Check.due("17 replacing 120 with room for 120", "120",
                () -> runsOf(Given.falling(10, 12, 120), true, false));
        Check.due("17 replacing 120 with room for 110", "110 10",
                () -> runsOf(Given.falling(10, 11, 120), true, false));
        Check.due("17 replacing 120 that rise with room for 6", "120",
                () -> runsOf(Given.row(2, 3, 0, 1, 120), true, false));
    }

    private static void replacingFreezesOneLess() {
        Check.due("17 one less comes ahead", "6 1", () -> runsOfKeys(false, 5, 5, 5, 5, 5, 5, 4));
        Check.due("17 the same comes behind", "7", () -> runsOfKeys(false, 5, 5, 5, 5, 5, 5, 5));
        Check.due("17 one greater comes behind", "7", () -> runsOfKeys(false, 5, 5, 5, 5, 5, 5, 6));
        Check.due("17 the least key of all", "6 1",
                () -> runsOfKeys(false, -998, -998, -998, -998, -998, -998, -999));
    }

    private static void replacingDownFreezesOneGreater() {
        Check.due("17 one greater comes ahead", "6 1", () -> runsOfKeys(true, 5, 5, 5, 5, 5, 5, 6));
        Check.due("17 the same comes behind", "7", () -> runsOfKeys(true, 5, 5, 5, 5, 5, 5, 5));
        Check.due("17 one less comes behind", "7", () -> runsOfKeys(true, 5, 5, 5, 5, 5, 5, 4));
        Check.due("17 the greatest key of all", "6 1",
                () -> runsOfKeys(true, 998, 998, 998, 998, 998, 998, 999));
    }

    private static void replacingLooksAtTheOneThatWent() {
        Check.due("17 behind the one that went, ahead of all others", "7",
                () -> runsOfKeys(false, 1, 5, 5, 5, 5, 5, 3));
        Check.due("17 the same for down", "7", () -> runsOfKeys(true, 9, 5, 5, 5, 5, 5, 7));
        // 1 goes, 3 comes; 3 goes, 2 comes ahead of it, though it is behind the first that went
        Check.due("17 the one that went just then", "7 1",
                () -> runsOfKeys(false, 1, 5, 5, 5, 5, 5, 3, 2));
    }

    private static void replacingLetsThatGoWhichCame() {
        // 1 goes, 3 comes; 3 goes, 4 comes behind it, though it is ahead of all that were there
        Check.due("17 what came goes as it comes ahead", "8",
                () -> runsOfKeys(false, 1, 5, 6, 7, 8, 9, 3, 4));
        Check.due("17 the same for down", "8", () -> runsOfKeys(true, 9, 5, 4, 3, 2, 1, 7, 6));
    }

    private static void replacingGoesOnWithoutNextRecords() {
        // 5 frozen by 4 3 2 1 0, one by one; the sixth one is not
        Check.due("17 those not frozen go on to the run", "7 5",
                () -> runsOfKeys(false, 5, 6, 7, 8, 9, 10, 11, 4, 3, 2, 1, 0));
    }

    private static void replacingMeltsAllForANewRun() {
        // all six frozen by 1 to 6, then they let 7 and 8 come behind them
        Check.due("17 none is frozen any more", "6 8",
                () -> runsOfKeys(false, 11, 12, 13, 14, 15, 16, 1, 2, 3, 4, 5, 6, 7, 8));
        Check.due("17 one is frozen again", "6 7 1",
                () -> runsOfKeys(false, 11, 12, 13, 14, 15, 16, 1, 2, 3, 4, 5, 6, 7, 1));
    }

    // ---- merging by levels

    private static void levelsAtFan() {
        Check.due("17 one run, FAN 2", "", () -> mergesOf(Given.falling(2, 3, 6), false));
        Check.due("17 two runs, FAN 2", "2>7", () -> mergesOf(Given.falling(2, 3, 7), false));
        Check.due("17 four runs, FAN 2", "2>12 2>12 2>24",
                () -> mergesOf(Given.falling(2, 3, 24), false));
        Check.due("17 three runs, FAN 4", "3>21", () -> mergesOf(Given.falling(2, 5, 21), false));
        Check.due("17 four runs, FAN 4", "4>40", () -> mergesOf(Given.falling(2, 5, 40), false));
        Check.due("17 five runs, FAN 11", "5>120",
                () -> mergesOf(Given.falling(2, 12, 120), false));
        Check.due("17 twelve runs, FAN 4", "4>40 4>40 4>40 3>120",
                () -> mergesOf(Given.falling(2, 5, 120), false));
    }

    private static void levelsLeaveOneAlone() {
        Check.due("17 three runs, FAN 2", "2>12 2>13",
                () -> mergesOf(Given.falling(2, 3, 13), false));
        Check.due("17 five runs, FAN 4", "4>40 2>41",
                () -> mergesOf(Given.falling(2, 5, 41), false));
        Check.due("17 six runs, FAN 4: two are not alone", "4>40 2>11 2>51",
                () -> mergesOf(Given.falling(2, 5, 51), false));
        Check.due("17 ten runs, FAN 3: alone twice", "3>24 3>24 3>24 3>72 2>73",
                () -> mergesOf(Given.falling(2, 4, 73), false));
    }

    private static void levelsCountNothingOfOneAlone() {
        MoraineSort x = Given.falling(2, 4, 73);
        x.sort(0, false, false, false);
        // 37 and 37 for the runs; 36, 36, and 36 with one more read, 37 written
        Check.due("17 one alone twice", "146 146 0", () -> Check.countsOf(x));
    }

    // ---- merging by the least

    private static void leastOfFirst() {
        int[] counts = {10, 11, 21, 31, 41, 51, 61, 71, 120};
        String[] due = {"", "2>11", "3>21", "4>31", "2>11 4>41", "3>21 4>51", "4>31 4>61",
            "2>11 4>40 4>71", "3>30 4>40 4>40 4>120"};
        for (int i = 0; i < counts.length; i++) {
            int count = counts[i];
            Check.due("17 the least of " + (i + 1) + " runs or more, FAN 4", due[i],
                    () -> mergesOf(Given.falling(2, 5, count), true));
        }
    }

    private static void leastWithFanTwo() {
        Check.due("17 one run, FAN 2", "", () -> mergesOf(Given.falling(2, 3, 6), true));
        Check.due("17 two runs, FAN 2", "2>7", () -> mergesOf(Given.falling(2, 3, 7), true));
        Check.due("17 three runs, FAN 2", "2>7 2>13",
                () -> mergesOf(Given.falling(2, 3, 13), true));
    }

    private static void leastWithFanEleven() {
        Check.due("17 one run, FAN 11", "", () -> mergesOf(Given.falling(2, 12, 24), true));
        Check.due("17 two runs, FAN 11", "2>25", () -> mergesOf(Given.falling(2, 12, 25), true));
        Check.due("17 five runs, FAN 11", "5>120", () -> mergesOf(Given.falling(2, 12, 120), true));
    }

    private static void leastTakesTheFewest() {
        MoraineSort x = Given.falling(2, 3, 26);
        x.sort(0, false, true, false);
        Check.due("17 what was made goes behind, by how many it has", "2>8 2>12 2>14 2>26",
                () -> Check.mergesOf(x));
        // 13 and 13 for the runs; 1 + 3, 3 + 3, 3 + 4, 6 + 7
        Check.due("17 pages of those", "43 43 0", () -> Check.countsOf(x));
    }

    private static void pagesThatAreNotFull() {
        MoraineSort x = Given.falling(3, 3, 13);
        x.sort(0, false, false, false);
        // 5 read; 3 and 2 written; 3 and 2 read, 5 written
        Check.due("14, 15 each run has pages of its own", "10 10 0", () -> Check.countsOf(x));
        MoraineSort y = new MoraineSort();
        y.setMemory(3, 3);
        Check.fileOf(y, 11, 12, 13, 14, 15, 16, 17, 18, 19, 20, 1);
        y.sort(0, true, false, false);
        // runs of 10 and 1: 4 read, 4 and 1 written; 4 and 1 read, 4 written
        Check.due("14, 15 more pages than the file has", "9 9 0", () -> Check.countsOf(y));
    }

    // ---- promises 18 to 21

    private static void promises18And20WithoutASort() {
        Check.onlyAsks("18 without any", 0, Given::nothing, x -> x.runs());
        Check.onlyAsks("20 without any", 0, Given::nothing, x -> x.merges());
        Check.onlyAsks("18 asked", Given.RUNS, Given::some, x -> x.runs());
        Check.onlyAsks("20 asked", Given.MERGES, Given::some, x -> x.merges());
    }

    private static void promises18And20OfAFileWithoutRecords() {
        MoraineSort x = Given.some();
        x.sort(Given.EMPTY, true, true, true);
        Check.due("18 the latest had none", 0, () -> x.runs());
        Check.due("20 the latest had none", 0, () -> x.merges());
        Check.noFile("19 none of the one before", () -> x.runSize(0));
        Check.noFile("21 none of the one before", () -> x.merge(0, 0));
    }

    private static void promises18To21OfTheLatest() {
        MoraineSort x = Given.some();
        x.sort(Given.UP, false, true, false);
        Check.due("18 the latest one alone", "4/", () -> Check.runsOf(x) + "/" + Check.mergesOf(x));
        MoraineSort y = Given.falling(2, 5, 41);
        y.sort(0, false, false, false);
        Check.due("21 four and two runs", "4>40 2>41", () -> Check.mergesOf(y));
        y.setMemory(2, 12);
        y.sort(0, false, false, false);
        Check.due("21 two runs of the latest", "2>41", () -> Check.mergesOf(y));
        x.sort(Given.OTHER_UP, false, false, false);
        x.drop();
        Check.due("18 also if its file is taken away", "5", () -> Check.runsOf(x));
        x.put(Given.OTHER_UP, 999, 0);
        Check.due("18 also if it is changed", "5", () -> Check.runsOf(x));
    }

    private static void promise18FullOne() {
        MoraineSort x = Given.falling(2, 3, 120);
        x.sort(0, true, false, false);
        Check.due("18 the most runs", 20, () -> x.runs());
        Check.due("20 the most merges", 19, () -> x.merges());
        Check.due("19 the last one of them", 6, () -> x.runSize(19));
        Check.due("21 the last one of them", 120, () -> x.merge(18, 1));
    }

    private static void promise19FirstAndLast() {
        MoraineSort x = Given.falling(2, 3, 13);
        x.sort(0, false, false, false);
        Check.due("19 the first", 6, () -> x.runSize(0));
        Check.due("19 the last", 1, () -> x.runSize(2));
        Check.noFile("19 behind the last", () -> x.runSize(3));
        Check.onlyAsks("19 asked", 6, Given::some, y -> y.runSize(Given.RUNS - 1));
    }

    private static void promise21FirstAndLast() {
        MoraineSort x = Given.falling(2, 5, 41);
        x.sort(0, false, false, false);
        Check.due("21 the first, what 0", 4, () -> x.merge(0, 0));
        Check.due("21 the first, what 1", 40, () -> x.merge(0, 1));
        Check.due("21 the last, what 0", 2, () -> x.merge(1, 0));
        Check.due("21 the last, what 1", 41, () -> x.merge(1, 1));
        Check.noFile("21 behind the last", () -> x.merge(2, 0));
        Check.onlyAsks("21 asked", 120, Given::some, y -> y.merge(Given.MERGES - 1, 1));
    }
}
