/** Promises 1 to 16 and paragraph 1 of the terms at their bounds: all that is just allowed. */
public final class FilesBoundsTest {
    public static void main(String[] args) {
        promise1WithoutFiles();
        promise2LeastAndGreatestPage();
        promise2PageAtFirst();
        promise2PageFromNowOn();
        promise2LeastAndGreatestMemory();
        promise2MemoryBefore();
        promise2MemoryAtFirst();
        promise3NumbersFrom0To11();
        promise3WithoutRecords();
        promise3OneDroppedOf12();
        promise4LeastAndGreatest();
        promise4UpTo120();
        promise5LeastAndGreatestFirst();
        promise5LeastAndGreatestStep();
        promise5LeastAndGreatestSpan();
        promise5LeastAndGreatestCount();
        promise5Just120();
        promise5FromBelow0();
        promise5MarksBy100();
        promise5Behind();
        promise6OneAndTwelve();
        promise6TheGreatestNumber();
        promise7NoneAndTwelve();
        promise8NoneAnd120();
        promise9FirstAndLastPlace();
        promise10NoneAndFull();
        promise10OneMoreIfAnyAreLeft();
        promise11NoneAndOne();
        promise11SameKeys();
        promise11FirstAndLastPair();
        promise11OfAFullOne();
        promise12();
        promise12LeastAndGreatestKey();
        promise13();
        promise13OfAFullOne();
        promises14To16AtFirst();
        promises14To16NotCounted();
        promises14To16WithoutRecords();
        promises14To16StayWithoutFiles();
        promise16EachTime();
        promise16NothingElseIsSpilt();
        Check.end("FilesBoundsTest");
    }

    private static MoraineSort withFile() {
        return Given.empties(1);
    }

    private static void promise1WithoutFiles() {
        MoraineSort x = new MoraineSort();
        Check.due("1 no files", 0, () -> x.files());
        Check.due("1 the first file is 0", 0, () -> x.addFile());
    }

    // ---- promise 2

    private static void promise2LeastAndGreatestPage() {
        MoraineSort x = Given.falling(2, 4, 120);
        Check.due("2 page 2", 60, () -> x.pages(0));
        Check.due("2 page 10 is allowed", 4, () -> x.setMemory(10, 4));
        Check.due("2 page 10", 12, () -> x.pages(0));
        Check.due("2 page 2 is allowed", 4, () -> x.setMemory(2, 4));
        Check.due("2 page 2 again", 60, () -> x.pages(0));
    }

    private static void promise2PageAtFirst() {
        MoraineSort x = new MoraineSort();
        Check.fileOf(x, 1, 2, 3, 4);
        Check.fileOf(x, 1, 2, 3, 4, 5);
        Check.due("2 four to a page at first", 1, () -> x.pages(0));
        Check.due("2 not five", 2, () -> x.pages(1));
    }

    private static void promise2PageFromNowOn() {
        MoraineSort x = new MoraineSort();
        Check.sameOf(x, 7, 11);
        x.group(0, 0);
        Check.due("14 three pages of 4", "3 1 0", () -> Check.countsOf(x));
        x.setMemory(2, 4);
        Check.due("2 what is counted stays", "3 1 0", () -> Check.countsOf(x));
        x.group(0, 0);
        Check.due("2 six pages of 2", "9 2 0", () -> Check.countsOf(x));
    }

    private static void promise2LeastAndGreatestMemory() {
        MoraineSort x = Given.falling(10, 3, 120);
        x.sort(0, false, false, false);
        Check.due("2 memory 3", "30 30 30 30", () -> Check.runsOf(x));
        Check.due("2 memory 12 is allowed", 3, () -> x.setMemory(10, 12));
        x.sort(0, false, false, false);
        Check.due("2 memory 12", "120", () -> Check.runsOf(x));
        Check.due("2 memory 3 is allowed", 12, () -> x.setMemory(2, 3));
        x.sort(0, false, false, false);
        Check.due("2 memory 3 with page 2", 20, () -> x.runs());
    }

    private static void promise2MemoryBefore() {
        MoraineSort x = new MoraineSort();
        Check.due("2 memory 4 at first", 4, () -> x.setMemory(2, 3));
        Check.due("2 3 before", 3, () -> x.setMemory(10, 12));
        Check.due("2 12 before", 12, () -> x.setMemory(10, 12));
        Check.due("2 the same before", 12, () -> x.setMemory(7, 8));
        Check.due("2 not the page before", 8, () -> x.setMemory(7, 8));
    }

    private static void promise2MemoryAtFirst() {
        MoraineSort x = new MoraineSort();
        x.addFile();
        x.putRow(0, 17, -1, 999, 17);
        x.sort(0, false, false, false);
        Check.due("2 room for 4 pages of 4 at first", "16 1", () -> Check.runsOf(x));
    }

    // ---- promise 3

    private static void promise3NumbersFrom0To11() {
        MoraineSort x = new MoraineSort();
        for (int file = 0; file < 12; file++) {
            Check.due("3 number", file, () -> x.addFile());
        }
        Check.due("3 the twelfth is one", 0, () -> x.size(11));
    }

    private static void promise3WithoutRecords() {
        MoraineSort x = Given.falling(4, 4, 120);
        x.drop();
        Check.due("3 in place of a full one", 0, () -> x.addFile());
        Check.due("3 without records", 0, () -> x.size(0));
        Check.due("3 the first record of it", 1, () -> x.put(0, 5, 6));
        Check.due("3 no other", "5:6", () -> Check.rowOf(x, 0, true));
    }

    private static void promise3OneDroppedOf12() {
        MoraineSort x = Given.twelve();
        x.drop();
        Check.due("3 the twelfth again", 11, () -> x.addFile());
        Check.noState("3 not one more", () -> x.addFile());
    }

    // ---- promise 4

    private static void promise4LeastAndGreatest() {
        MoraineSort x = withFile();
        Check.due("4 the least key", 1, () -> x.put(0, -999, 5));
        Check.due("4 the greatest key", 2, () -> x.put(0, 999, 5));
        Check.due("4 the least mark", 3, () -> x.put(0, 5, 0));
        Check.due("4 the greatest mark", 4, () -> x.put(0, 5, 9999));
        Check.due("4 as they were written", "-999:5 999:5 5:0 5:9999",
                () -> Check.rowOf(x, 0, true));
    }

    private static void promise4UpTo120() {
        MoraineSort x = Given.empties(12);
        for (int count = 1; count <= 120; count++) {
            int key = count;
            Check.due("4 how many then", count, () -> x.put(11, key, 0));
        }
        Check.due("4 the last one is there", 120, () -> x.at(11, 119, false));
        Check.noState("4 not one more", () -> x.put(11, 0, 0));
        Check.due("4 another file is not full", 1, () -> x.put(10, 0, 0));
    }

    // ---- promise 5

    private static void promise5LeastAndGreatestFirst() {
        MoraineSort x = withFile();
        Check.due("5 first 0", 1, () -> x.putRow(0, 0, 5, 999, 1));
        Check.due("5 first 999", 2, () -> x.putRow(0, 999, 5, 999, 1));
        x.putRow(0, 998, 5, 999, 1);
        x.putRow(0, 999, 5, 998, 1);
        Check.due("5 taken by span at once", "0 0 998 1", () -> Check.rowOf(x, 0, false));
    }

    private static void promise5LeastAndGreatestStep() {
        MoraineSort x = withFile();
        Check.due("5 step 999", 3, () -> x.putRow(0, 999, 999, 998, 3));
        Check.due("5 step -999", 6, () -> x.putRow(0, 999, -999, 998, 3));
        Check.due("5 step 0", 9, () -> x.putRow(0, 7, 0, 999, 3));
        Check.due("5 steps", "1 2 3 1 0 997 7 7 7", () -> Check.rowOf(x, 0, false));
    }

    private static void promise5LeastAndGreatestSpan() {
        MoraineSort x = withFile();
        Check.due("5 span 1", 3, () -> x.putRow(0, 997, 1, 1, 3));
        Check.due("5 span 999", 6, () -> x.putRow(0, 997, 1, 999, 3));
        Check.due("5 spans", "0 0 0 997 998 0", () -> Check.rowOf(x, 0, false));
    }

    private static void promise5LeastAndGreatestCount() {
        MoraineSort x = Given.empties(2);
        Check.due("5 count 1", 1, () -> x.putRow(0, 3, 1, 999, 1));
        Check.due("5 one record", "3:0", () -> Check.rowOf(x, 0, true));
        Check.due("5 count 120", 120, () -> x.putRow(1, 3, 1, 999, 120));
        Check.due("5 the last record", 122, () -> x.at(1, 119, false));
    }

    private static void promise5Just120() {
        MoraineSort x = Given.empties(2);
        x.putRow(0, 0, 0, 1, 1);
        Check.due("5 119 to one", 120, () -> x.putRow(0, 0, 0, 1, 119));
        x.putRow(1, 0, 0, 1, 119);
        Check.due("5 one to 119", 120, () -> x.putRow(1, 0, 0, 1, 1));
    }

    private static void promise5FromBelow0() {
        MoraineSort x = Given.empties(2);
        x.putRow(0, 0, -1, 5, 7);
        Check.due("5 from 0 down", "0 4 3 2 1 0 4", () -> Check.rowOf(x, 0, false));
        x.putRow(0, 1, -5, 5, 3);
        x.putRow(0, 0, -7, 7, 2);
        Check.due("5 whole spans below 0", "0 4 3 2 1 0 4 1 1 1 0 0",
                () -> Check.rowOf(x, 0, false));
        x.putRow(1, 0, -999, 998, 120);
        // -119 * 999 is -119 * 998 - 119
        Check.due("5 far below 0", 879, () -> x.at(1, 119, false));
        Check.due("5 never below 0", 0, () -> least(x, 1));
    }

    private static int least(MoraineSort x, int file) {
        int least = 1000;
        for (int place = 0; place < x.size(file); place++) {
            least = Math.min(least, x.at(file, place, false));
        }
        return least;
    }

    private static void promise5MarksBy100() {
        MoraineSort x = withFile();
        x.putRow(0, 0, 1, 999, 102);
        Check.due("5 mark of k 0", 0, () -> x.at(0, 0, true));
        Check.due("5 mark of k 99", 99, () -> x.at(0, 99, true));
        Check.due("5 mark of k 100", 0, () -> x.at(0, 100, true));
        Check.due("5 mark of k 101", 1, () -> x.at(0, 101, true));
    }

    private static void promise5Behind() {
        MoraineSort x = withFile();
        x.put(0, -8, 77);
        x.putRow(0, 4, 2, 999, 2);
        x.putRow(0, 9, 2, 999, 2);
        Check.due("5 behind, each with k from 0 on", "-8:77 4:0 6:1 9:0 11:1",
                () -> Check.rowOf(x, 0, true));
    }

    // ---- promises 6 to 9

    private static void promise6OneAndTwelve() {
        MoraineSort x = Given.empties(12);
        for (int left = 11; left >= 0; left--) {
            Check.due("6 how many then", left, () -> x.drop());
        }
        Check.noState("6 none", () -> x.drop());
    }

    private static void promise6TheGreatestNumber() {
        MoraineSort x = new MoraineSort();
        Check.fileOf(x, 1);
        Check.fileOf(x, 2, 3);
        Check.fileOf(x, 4, 5, 6);
        x.drop();
        Check.due("6 the others stay", "1/2 3", () -> Check.rowOf(x, 0, false) + "/"
                + Check.rowOf(x, 1, false));
        Check.noFile("6 that one is no file", () -> x.size(2));
    }

    private static void promise7NoneAndTwelve() {
        Check.due("7 none", 0, () -> new MoraineSort().files());
        Check.due("7 twelve", 12, () -> Given.twelve().files());
        Check.onlyAsks("7 asked", Given.FILES, Given::some, x -> x.files());
    }

    private static void promise8NoneAnd120() {
        Check.onlyAsks("8 without records", 0, Given::some, x -> x.size(Given.EMPTY));
        Check.onlyAsks("8 full", 120, Given::some, x -> x.size(Given.FULL));
        Check.due("8 of file 11", 0, () -> Given.twelve().size(11));
    }

    private static void promise9FirstAndLastPlace() {
        Check.onlyAsks("9 the first key", 119, Given::some, x -> x.at(Given.FULL, 0, false));
        Check.onlyAsks("9 the last key", 0, Given::some, x -> x.at(Given.FULL, 119, false));
        Check.onlyAsks("9 the first mark", 0, Given::some, x -> x.at(Given.FULL, 0, true));
        Check.onlyAsks("9 the last mark", 19, Given::some, x -> x.at(Given.FULL, 119, true));
        Check.due("9 the last of 4", 5, () -> Given.some().at(Given.UP, 3, false));
    }

    // ---- promise 10

    private static void promise10NoneAndFull() {
        for (int page = 2; page <= 10; page++) {
            int[] full = {60, 40, 30, 24, 20, 18, 15, 14, 12};
            MoraineSort x = Given.falling(page, 4, 120);
            x.addFile();
            Check.due("10 full, page " + page, full[page - 2], () -> x.pages(0));
            Check.due("10 without records, page " + page, 0, () -> x.pages(1));
        }
        Check.onlyAsks("10 asked", 60, Given::some, x -> x.pages(Given.FULL));
    }

    private static void promise10OneMoreIfAnyAreLeft() {
        for (int page = 2; page <= 10; page++) {
            MoraineSort x = Given.falling(page, 4, 1);
            Check.due("10 one record, page " + page, 1, () -> x.pages(0));
            x.putRow(0, 0, 0, 1, page - 1);
            Check.due("10 a whole page " + page, 1, () -> x.pages(0));
            x.put(0, 0, 0);
            Check.due("10 one is left, page " + page, 2, () -> x.pages(0));
            x.putRow(0, 0, 0, 1, page - 1);
            Check.due("10 two whole pages " + page, 2, () -> x.pages(0));
        }
    }

    // ---- promise 11

    private static int orderOf(int... keys) {
        MoraineSort x = new MoraineSort();
        Check.fileOf(x, keys);
        return x.order(0);
    }

    private static void promise11NoneAndOne() {
        Check.due("11 without records both", 3, () -> orderOf());
        Check.due("11 with one record both", 3, () -> orderOf(-999));
    }

    private static void promise11SameKeys() {
        Check.due("11 two with the same key", 3, () -> orderOf(4, 4));
        Check.due("11 up with the same keys", 1, () -> orderOf(3, 4, 4, 5));
        Check.due("11 down with the same keys", 2, () -> orderOf(5, 4, 4, 3));
    }

    private static void promise11FirstAndLastPair() {
        Check.due("11 one more", 1, () -> orderOf(4, 5));
        Check.due("11 one less", 2, () -> orderOf(5, 4));
        Check.due("11 only the first pair falls", 0, () -> orderOf(2, 1, 2, 3));
        Check.due("11 only the last pair falls", 0, () -> orderOf(1, 2, 3, 2));
        Check.due("11 only the first pair falls, then the same", 2, () -> orderOf(2, 1, 1));
        Check.due("11 only the last pair rises, from the same", 1, () -> orderOf(1, 1, 2));
        Check.due("11 from the least to the greatest", 1, () -> orderOf(-999, 0, 999));
    }

    private static void promise11OfAFullOne() {
        MoraineSort x = Given.row(4, 4, 0, 1, 120);
        Check.due("11 full and up", 1, () -> x.order(0));
        MoraineSort y = Given.row(4, 4, 0, 1, 119);
        y.put(0, 117, 0);
        Check.due("11 the 120th falls", 0, () -> y.order(0));
        Check.onlyAsks("11 asked", 2, Given::some, z -> z.order(Given.FULL));
    }

    // ---- promises 12 and 13

    private static void promise12() {
        Check.onlyAsks("12 without records", 0, Given::some, x -> x.distinct(Given.EMPTY));
        Check.onlyAsks("12 all different", 120, Given::some, x -> x.distinct(Given.FULL));
        Check.onlyAsks("12 all the same", 1, Given::some, x -> x.distinct(Given.SAME));
        MoraineSort y = new MoraineSort();
        Check.fileOf(y, 6, 7, 6, 7, 6);
        Check.due("12 also if they are not together", 2, () -> y.distinct(0));
    }

    private static void promise12LeastAndGreatestKey() {
        MoraineSort x = new MoraineSort();
        Check.fileOf(x, -999, 999, -998, 998, -1, 0, 1, 999, -999);
        Check.due("12 the sign counts", 7, () -> x.distinct(0));
        MoraineSort y = withFile();
        for (int k = 0; k < 120; k++) {
            y.put(0, -999 + k * 999 / 60, 0);
        }
        Check.due("12 over all keys", 120, () -> y.distinct(0));
    }

    private static void promise13() {
        MoraineSort x = Given.empties(1);
        Check.due("13 without records", 0, () -> x.inversions(0));
        x.put(0, 999, 0);
        Check.due("13 one record", 0, () -> x.inversions(0));
        x.put(0, 999, 0);
        Check.due("13 the same key is not greater", 0, () -> x.inversions(0));
        x.put(0, 998, 0);
        Check.due("13 one less", 2, () -> x.inversions(0));
        x.put(0, -999, 0);
        Check.due("13 also not side by side", 5, () -> x.inversions(0));
    }

    private static void promise13OfAFullOne() {
        Check.onlyAsks("13 all pairs of 120", 7140, Given::some, x -> x.inversions(Given.FULL));
        Check.due("13 none, as it is sorted", 0, () -> Given.some().inversions(Given.SORTED));
    }

    // ---- promises 14 to 16

    private static void promises14To16AtFirst() {
        Check.due("14, 15, 16 at first", "0 0 0", () -> Check.countsOf(new MoraineSort()));
        Check.onlyAsks("14 asked", 333, Given::some, x -> x.read());
        Check.onlyAsks("15 asked", 329, Given::some, x -> x.written());
        Check.onlyAsks("16 asked", 2, Given::some, x -> x.spilt());
    }

    private static void promises14To16NotCounted() {
        MoraineSort x = Given.falling(2, 3, 119);
        x.put(0, 5, 5);
        x.addFile();
        x.addFile();
        x.putRow(1, 0, 0, 1, 120);
        x.begin(1, 2);
        x.next();
        x.drop();
        Check.due("14, 15, 16 what is put is not counted", "0 0 0", () -> Check.countsOf(x));
    }

    private static void promises14To16WithoutRecords() {
        MoraineSort x = Given.empties(2);
        x.sort(0, false, false, false);
        x.sort(0, true, true, true);
        x.join(0, 1, 1);
        x.split(0, 1);
        x.group(0, 0);
        Check.due("14, 15, 16 no pages without records", "0 0 0", () -> Check.countsOf(x));
    }

    private static void promise16EachTime() {
        MoraineSort x = Given.some();
        x.join(Given.UP, Given.OTHER_UP, 0);
        Check.due("16 two pages and two", 4, () -> x.spilt());
        x.join(Given.UP, Given.OTHER_UP, 1);
        Check.due("16 and two", 6, () -> x.spilt());
    }

    private static void promise16NothingElseIsSpilt() {
        MoraineSort x = Given.some();
        x.sort(Given.UP, true, true, true);
        Check.due("16 a sort", 2, () -> x.spilt());
        x.group(Given.UP, 0);
        Check.due("16 a group", 2, () -> x.spilt());
        x.split(Given.UP, Given.OTHER_UP);
        Check.due("16 a split", 2, () -> x.spilt());
        x.join(Given.UP, Given.EMPTY, 0);
        Check.due("16 a join without pairs", 2, () -> x.spilt());
    }

    private static void promises14To16StayWithoutFiles() {
        MoraineSort x = Given.some();
        String before = Check.countsOf(x);
        for (int file = 0; file < Given.FILES; file++) {
            x.drop();
        }
        Check.due("14, 15, 16 stay", before, () -> Check.countsOf(x));
    }
}
