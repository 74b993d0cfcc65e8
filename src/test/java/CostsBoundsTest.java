import java.math.BigInteger;
import java.util.stream.IntStream;
import java.util.stream.LongStream;

/** Promises 30 to 34 at their bounds. */
public final class CostsBoundsTest {
    public static void main(String[] args) {
        sortCostLeastAndGreatestMemory();
        sortCostWithoutRecords();
        sortCostOneRecord();
        sortCostByThePage();
        sortCostToBeUp();
        sortCostWith12Files();
        sortCostIsWhatASortCosts();
        memoryForLeastAndGreatestMerges();
        memoryForLeastAndGreatestMemory();
        memoryForWithoutOne();
        memoryForSoManyOrFewer();
        memoryForByTheLevels();
        memoryForWithoutRecords();
        splitCostWithoutRecords();
        splitCostAbove120Records();
        splitCostWith12Files();
        splitCostIsWhatASplitCosts();
        shareAtItsBounds();
        shareIsNotCut();
        shareOfOneRecord();
        shareWithoutRecords();
        shareBySign();
        digestOfNothing();
        digestWith12Files();
        digestWrapsAround();
        digestWithoutATournament();
        digestOfAllThatIsAsked();
        Check.end("CostsBoundsTest");
    }

    // ---- promise 30

    private static void sortCostLeastAndGreatestMemory() {
        // 20 runs of 3 pages: 60 and 60, ten merges and five the same, 48 + 48 twice, 60 + 60
        Check.onlyAsks("30 memory 3", 672, () -> Given.falling(2, 12, 120),
                x -> x.sortCost(0, false, false, 3));
        // 5 runs of 12 pages, one merge: 60 and 60 twice
        Check.onlyAsks("30 memory 12", 240, () -> Given.falling(2, 3, 120),
                x -> x.sortCost(0, false, false, 12));
        Check.onlyAsks("30 memory 12, replacing and the least", 240,
                () -> Given.falling(2, 3, 120), x -> x.sortCost(0, true, true, 12));
    }

    private static void sortCostWithoutRecords() {
        for (int memory = 3; memory <= 12; memory++) {
            int some = memory;
            Check.onlyAsks("30 without records", 0, Given::some,
                    x -> x.sortCost(Given.EMPTY, true, true, some));
            Check.onlyAsks("30 without records", 0, Given::some,
                    x -> x.sortCost(Given.EMPTY, false, false, some));
        }
    }

    private static void sortCostOneRecord() {
        MoraineSort x = Given.falling(2, 3, 1);
        Check.due("30 one page read and written", 2, () -> x.sortCost(0, false, false, 3));
        Check.due("30 one page read and written", 2, () -> x.sortCost(0, true, true, 12));
    }

    private static void sortCostByThePage() {
        MoraineSort x = Given.falling(10, 3, 31);
        // 4 read; 3 and 1 written; 3 and 1 read, 4 written
        Check.due("30 page 10", 16, () -> x.sortCost(0, false, false, 3));
        Check.due("30 one run", 8, () -> x.sortCost(0, false, false, 4));
        x.setMemory(2, 3);
        // 16 read; 8 and 8 written; 8 and 8 read, 16 written
        Check.due("30 page 2", 64, () -> x.sortCost(0, false, false, 8));
    }

    private static void sortCostToBeUp() {
        Check.due("30 one run to be up", 120,
                () -> Given.row(2, 12, 0, 1, 120).sortCost(0, true, false, 3));
        Check.due("30 20 runs to be up", 672,
                () -> Given.falling(2, 12, 120).sortCost(0, true, false, 3));
    }

    private static void sortCostWith12Files() {
        Check.onlyAsks("30 with 12 files", 648, Given::twelve,
                x -> x.sortCost(Given.FULL, true, true, 3));
        Check.onlyAsks("30 of file 11", 0, Given::twelve, x -> x.sortCost(11, true, true, 3));
    }

    private static void sortCostIsWhatASortCosts() {
        for (int way = 0; way < 4; way++) {
            boolean isReplacing = (way & 1) != 0;
            boolean isLeast = (way & 2) != 0;
            for (int memory = 3; memory <= 12; memory++) {
                MoraineSort x = Given.row(2, memory, 31, 377, 119);
                int cost = x.sortCost(0, isReplacing, isLeast, memory);
                x.sort(0, isReplacing, isLeast, false);
                Check.due("30 way " + way + ", memory " + memory, cost,
                        () -> x.read() + x.written());
            }
        }
    }

    // ---- promise 31

    private static void memoryForLeastAndGreatestMerges() {
        Check.onlyAsks("31 merges 0", 12, () -> Given.falling(2, 3, 24),
                x -> x.memoryFor(0, false, 0));
        Check.onlyAsks("31 merges 100", 3, () -> Given.falling(2, 12, 120),
                x -> x.memoryFor(0, false, 100));
        Check.onlyAsks("31 with 12 files", 3, Given::twelve,
                x -> x.memoryFor(Given.FULL, true, 100));
    }

    private static void memoryForLeastAndGreatestMemory() {
        Check.due("31 one run in memory 3", 3, () -> Given.falling(2, 4, 6).memoryFor(0, false, 0));
        Check.due("31 not in memory 3", 4, () -> Given.falling(2, 4, 7).memoryFor(0, false, 0));
        Check.due("31 one run in memory 12", 12,
                () -> Given.falling(10, 4, 120).memoryFor(0, false, 0));
        Check.due("31 one run in memory 11", 11,
                () -> Given.falling(10, 4, 110).memoryFor(0, false, 0));
        Check.due("31 not in memory 11", 12,
                () -> Given.falling(10, 4, 111).memoryFor(0, false, 0));
    }

    private static void memoryForWithoutOne() {
        Check.onlyAsks("31 no memory for one run", -1, () -> Given.falling(2, 3, 25),
                x -> x.memoryFor(0, false, 0));
        Check.due("31 no memory for one run, replacing", -1,
                () -> Given.falling(2, 3, 25).memoryFor(0, true, 0));
        Check.due("31 one to be up, replacing", 3,
                () -> Given.row(2, 12, 0, 1, 120).memoryFor(0, true, 0));
    }

    private static void memoryForSoManyOrFewer() {
        MoraineSort x = Given.falling(2, 12, 25);
        // memory 3: 5 runs, 4 merges; 4: 4 runs, 2 merges; 5: 3 runs, 1 merge
        int[] due = {-1, 5, 4, 4, 3, 3};
        for (int merges = 0; merges < due.length; merges++) {
            int some = merges;
            Check.due("31 merges " + merges, due[merges], () -> x.memoryFor(0, false, some));
        }
        MoraineSort y = Given.falling(2, 12, 120);
        Check.due("31 19 merges", 3, () -> y.memoryFor(0, false, 19));
        // memory 4: 15 runs: 5 merges, then 2, then 1
        Check.due("31 18 merges", 4, () -> y.memoryFor(0, false, 18));
        Check.due("31 8 merges", 4, () -> y.memoryFor(0, false, 8));
    }

    private static void memoryForByTheLevels() {
        MoraineSort x = Given.falling(2, 12, 51);
        // six runs in memory 5: by levels 4 and 2, then 2; by the least 3, then 4: two would do
        Check.due("31 by levels, not by the least", 6, () -> x.memoryFor(0, false, 2));
    }

    private static void memoryForWithoutRecords() {
        Check.onlyAsks("31 without records", 3, Given::some,
                x -> x.memoryFor(Given.EMPTY, false, 0));
        Check.onlyAsks("31 without records, replacing", 3, Given::some,
                x -> x.memoryFor(Given.EMPTY, true, 100));
    }

    // ---- promise 32

    private static void splitCostWithoutRecords() {
        Check.onlyAsks("32 a without records", 0, Given::some,
                x -> x.splitCost(Given.EMPTY, Given.FULL));
        Check.onlyAsks("32 b without records", 0, Given::some,
                x -> x.splitCost(Given.FULL, Given.EMPTY));
        Check.onlyAsks("32 one without records with itself", 0, Given::some,
                x -> x.splitCost(Given.EMPTY, Given.EMPTY));
    }

    private static void splitCostAbove120Records() {
        // page 2, memory 3: three times 6 and 6 read and written; 6 parts: 1 and 6; 61 written
        Check.onlyAsks("32 of 121 records", 3 * 24 + 6 * 7 + 61, Given::some,
                x -> x.splitCost(Given.SAME, Given.SAME));
        // three times 60 and 60 read and written; 60 parts: 1 and 60; 7200 written
        Check.onlyAsks("32 of 14400 records", 3 * 240 + 60 * 61 + 7200,
                () -> Given.row(2, 3, 5, 0, 120), x -> x.splitCost(0, 0));
    }

    private static void splitCostWith12Files() {
        // 2 and 3, written 2, 1, 2; of the row 1 2 and 2, written 1, 1, 2; of its row 1 1 and 2,
        // written 1 and 2; two parts: 1 and 1 each; 3 written
        Check.onlyAsks("32 with 12 files", 10 + 8 + 6 + 4 + 3, Given::twelve,
                x -> x.splitCost(Given.UP, Given.OTHER_UP));
        Check.onlyAsks("32 of file 11", 0, Given::twelve, x -> x.splitCost(11, 11));
    }

    private static void splitCostIsWhatASplitCosts() {
        for (int memory = 3; memory <= 12; memory++) {
            MoraineSort x = Given.row(2, memory, 31, 377, 100);
            x.addFile();
            x.putRow(1, 16, 211, 999, 90);
            int cost = x.splitCost(0, 1);
            x.split(0, 1);
            Check.due("32 memory " + memory, cost, () -> x.read() + x.written());
        }
    }

    // ---- promise 33

    private static void shareAtItsBounds() {
        MoraineSort x = new MoraineSort();
        Check.fileOf(x, 4, 5, 6);
        Check.fileOf(x, 7, 3);
        Check.due("33 none", 0.0, () -> x.share(0, 1));
        Check.due("33 all, with itself", 1.0, () -> x.share(0, 0));
        Check.onlyAsks("33 all of a full one", 1.0, Given::some,
                y -> y.share(Given.FULL, Given.SORTED));
        Check.onlyAsks("33 one of a full one", 1.0 / 120.0, Given::some,
                y -> y.share(Given.FULL, Given.SAME));
        Check.onlyAsks("33 with 12 files", 1.0, Given::twelve,
                y -> y.share(Given.SAME, Given.FULL));
    }

    private static void shareIsNotCut() {
        MoraineSort x = new MoraineSort();
        Check.fileOf(x, 5, 6, 5);
        Check.fileOf(x, 5, 9, 9);
        Check.due("33 two of three", 2.0 / 3.0, () -> x.share(0, 1));
        Check.due("33 one of three", 1.0 / 3.0, () -> x.share(1, 0));
    }

    private static void shareOfOneRecord() {
        MoraineSort x = new MoraineSort();
        Check.fileOf(x, 7);
        Check.fileOf(x, 6, 7);
        Check.due("33 the only one", 1.0, () -> x.share(0, 1));
        Check.due("33 one of two", 0.5, () -> x.share(1, 0));
    }

    private static void shareWithoutRecords() {
        Check.onlyAsks("33 of one without records", 0.0, Given::some,
                x -> x.share(Given.EMPTY, Given.FULL));
        Check.onlyAsks("33 with one without records", 0.0, Given::some,
                x -> x.share(Given.FULL, Given.EMPTY));
        Check.onlyAsks("33 of one without records with itself", 0.0, Given::some,
                x -> x.share(Given.EMPTY, Given.EMPTY));
    }

    private static void shareBySign() {
        MoraineSort x = new MoraineSort();
        Check.fileOf(x, -999, 999, -1, 0);
        Check.fileOf(x, 999, 1);
        Check.due("33 the sign counts", 0.25, () -> x.share(0, 1));
        Check.fileOf(x, -999, 0);
        Check.due("33 the least key", 0.5, () -> x.share(0, 2));
    }

    // ---- promise 34

    /** The checksum of these numbers, worked out without any wrap-around but at the end. */
    private static long wrapped(long... numbers) {
        BigInteger sum = BigInteger.valueOf(58067);
        for (long number : numbers) {
            sum = sum.multiply(BigInteger.valueOf(31)).add(BigInteger.valueOf(number));
        }
        return sum.longValue();
    }

    private static void digestOfNothing() {
        Check.onlyAsks("34 no file, no sort, no tournament", wrapped(0, 0, 0, 0, 0, 0, 0),
                Given::nothing, x -> x.digest());
    }

    private static void digestWith12Files() {
        long[] numbers = new long[7 + 12 * 6];
        numbers[0] = 12;
        for (int file = 0; file < 12; file++) {
            // order is 3, as none has records; all others are 0
            numbers[7 + 6 * file + 2] = 3;
        }
        Check.onlyAsks("34 with 12 files without records", wrapped(numbers),
                () -> Given.empties(12), x -> x.digest());
    }

    private static void digestWrapsAround() {
        MoraineSort x = new MoraineSort();
        x.addFile();
        x.put(0, 999, 9999);
        x.put(0, -999, 9999);
        long want = wrapped(1, 0, 0, 0, 0, 0, 0, 2, 1, 2, 2, 2, 2, 999, 9999, -999, 9999);
        Check.due("34 beyond 64 bits", want, () -> x.digest());
        x.put(0, 999, 0);
        long next = wrapped(1, 0, 0, 0, 0, 0, 0, 3, 1, 0, 2, 2, 2, 999, 9999, -999, 9999, 999, 0);
        Check.due("34 of another state", next, () -> x.digest());
    }

    /** Each number asked on its own, so that no object gets more calls than are promised. */
    private static void digestOfAllThatIsAsked() {
        Check.due("34 as the calls answer", wrapped(askedOf(Given::some)),
                () -> Given.some().digest());
        Check.due("34 with 12 files", wrapped(askedOf(Given::twelve)),
                () -> Given.twelve().digest());
        Check.Maker mixed = () -> {
            MoraineSort x = Given.row(2, 5, 31, 377, 119);
            x.sort(0, true, true, true);
            return x;
        };
        Check.due("34 four costs that differ", 4L, () -> IntStream.range(0, 4)
                .map(way -> mixed.make().sortCost(0, (way & 1) != 0, (way & 2) != 0, 5))
                .distinct().count());
        Check.due("34 two of the costs", wrapped(askedOf(mixed)), () -> mixed.make().digest());
    }

    private static long[] askedOf(Check.Maker maker) {
        MoraineSort x = maker.make();
        LongStream.Builder all = LongStream.builder();
        all.add(x.files()).add(x.read()).add(x.written()).add(x.spilt()).add(x.runs());
        for (int run = 0; run < x.runs(); run++) {
            all.add(x.runSize(run));
        }
        all.add(x.merges());
        for (int merge = 0; merge < x.merges(); merge++) {
            all.add(x.merge(merge, 0)).add(x.merge(merge, 1));
        }
        all.add(x.matches());
        for (int file = 0; file < x.files(); file++) {
            askFile(all, maker.make(), file);
        }
        return all.build().toArray();
    }

    private static void askFile(LongStream.Builder all, MoraineSort x, int file) {
        int size = x.size(file);
        int memory = x.setMemory(2, 3);
        x.setMemory(2, memory);
        all.add(size).add(x.pages(file)).add(x.order(file)).add(x.distinct(file));
        all.add(x.sortCost(file, false, false, memory)).add(x.sortCost(file, true, true, memory));
        for (int place = 0; place < size; place++) {
            all.add(x.at(file, place, false)).add(x.at(file, place, true));
        }
    }

    private static void digestWithoutATournament() {
        MoraineSort x = new MoraineSort();
        Check.fileOf(x, 3);
        Check.fileOf(x, 4);
        x.begin(0, 2);
        long[] all = {2, 0, 0, 0, 0, 0, 1, 1, 1, 3, 1, 2, 2, 3, 0, 1, 1, 3, 1, 2, 2, 4, 0};
        Check.due("34 a tournament has matches", wrapped(all), () -> x.digest());
        x.drop();
        x.addFile();
        x.put(1, 4, 0);
        all[6] = 0;
        Check.due("34 none any more", wrapped(all), () -> x.digest());
    }
}
