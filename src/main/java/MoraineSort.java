/**
 * A sorter for files that are larger than the memory: files of records are sorted by runs that are
 * merged, merged by a tournament, joined and grouped, and what is read and written is counted page
 * by page.
 *
 * <p>All rows are made with the object and used again, so that no call but one that throws makes
 * anything.
 */
public final class MoraineSort {
    private static final int FILE_LIMIT = 12;
    private static final int RECORD_LIMIT = 120;
    private static final int KEY_LIMIT = 999;
    private static final int MARK_COUNT = 10000;
    private static final int LEAST_PAGE = 2;
    private static final int MOST_PAGE = 10;
    private static final int LEAST_MEMORY = 3;
    private static final int MOST_MEMORY = 12;
    private static final int FIRST_SIZE = 4;
    private static final int MERGES_LIMIT = 100;
    private static final int HOW_LIMIT = 3;
    private static final int LEAF_LIMIT = 8;
    private static final int SPLIT_DEPTH = 3;
    private static final int NO_KEY = 1000;
    private static final long DIGEST_START = 58067;
    /** One more than the greatest weight of a record (see {@link #weightOf}). */
    private static final int WEIGHTS = (2 * KEY_LIMIT + 1) * RECORD_LIMIT;

    private final Row[] files = new Row[FILE_LIMIT];
    private int fileCount = 0;
    private int page = FIRST_SIZE;
    private int memory = FIRST_SIZE;
    private int readPages = 0;
    private int writtenPages = 0;
    private int spiltPages = 0;
    private final Plan latest = new Plan();
    private final Plan trial = new Plan();
    private final Heap heap = new Heap();
    private final Tournament tournament = new Tournament();
    private final Outcome outcome = new Outcome();
    private final Splitting splitting = new Splitting();
    private final KeySet keySet = new KeySet();

    public MoraineSort() {
        for (int file = 0; file < FILE_LIMIT; file++) {
            files[file] = new Row();
        }
    }

    // ---- files

    public int setMemory(int page, int memory) throws IllegalArgumentException {
        if (page < LEAST_PAGE || page > MOST_PAGE) {
            throw new IllegalArgumentException("page is not 2 to 10");
        }
        needMemory(memory);
        int before = this.memory;
        this.page = page;
        this.memory = memory;
        return before;
    }

    public int addFile() throws IllegalStateException {
        needRoom();
        int file = fileCount;
        files[file].empty();
        fileCount++;
        return file;
    }

    public int put(int file, int key, int mark)
            throws IndexOutOfBoundsException, IllegalArgumentException, IllegalStateException {
        Row row = rowOf(file);
        if (key < -KEY_LIMIT || key > KEY_LIMIT) {
            throw new IllegalArgumentException("key is not -999 to 999");
        }
        if (mark < 0 || mark >= MARK_COUNT) {
            throw new IllegalArgumentException("mark is not 0 to 9999");
        }
        needSpace(row, 1);
        tournament.forget(file);
        row.add(key, mark);
        return row.count();
    }

    public int putRow(int file, int first, int step, int span, int count)
            throws IndexOutOfBoundsException, IllegalArgumentException, IllegalStateException {
        Row row = rowOf(file);
        if (first < 0 || first > KEY_LIMIT) {
            throw new IllegalArgumentException("first is not 0 to 999");
        }
        if (step < -KEY_LIMIT || step > KEY_LIMIT) {
            throw new IllegalArgumentException("step is not -999 to 999");
        }
        if (span < 1 || span > KEY_LIMIT) {
            throw new IllegalArgumentException("span is not 1 to 999");
        }
        if (count < 1 || count > RECORD_LIMIT) {
            throw new IllegalArgumentException("count is not 1 to 120");
        }
        needSpace(row, count);
        tournament.forget(file);
        for (int k = 0; k < count; k++) {
            row.add(Math.floorMod(first + k * step, span), k % 100);
        }
        return row.count();
    }

    public int drop() throws IllegalStateException {
        if (fileCount < 1) {
            throw new IllegalStateException("there is no file");
        }
        fileCount--;
        tournament.forget(fileCount);
        return fileCount;
    }

    public int files() {
        return fileCount;
    }

    public int size(int file) throws IndexOutOfBoundsException {
        return rowOf(file).count();
    }

    public int at(int file, int place, boolean isMark) throws IndexOutOfBoundsException {
        Row row = rowOf(file);
        if (!row.has(place)) {
            throw new IndexOutOfBoundsException("no such place");
        }
        return isMark ? row.markAt(place) : row.keyAt(place);
    }

    public int pages(int file) throws IndexOutOfBoundsException {
        return pagesFor(rowOf(file).count(), page);
    }

    public int order(int file) throws IndexOutOfBoundsException {
        return orderOf(rowOf(file));
    }

    public int distinct(int file) throws IndexOutOfBoundsException {
        return keysIn(rowOf(file));
    }

    public int inversions(int file) throws IndexOutOfBoundsException {
        Row row = rowOf(file);
        int pairs = 0;
        for (int place = 1; place < row.count(); place++) {
            for (int ahead = 0; ahead < place; ahead++) {
                if (row.keyAt(ahead) > row.keyAt(place)) {
                    pairs++;
                }
            }
        }
        return pairs;
    }

    public int read() {
        return readPages;
    }

    public int written() {
        return writtenPages;
    }

    public int spilt() {
        return spiltPages;
    }

    // ---- sorting

    public int sort(int file, boolean isReplacing, boolean isLeast, boolean isDown)
            throws IndexOutOfBoundsException, IllegalStateException {
        Row row = rowOf(file);
        needRoom();
        latest.make(row, isReplacing, isLeast, isDown, page, memory);
        outcome.clear();
        outcome.readPages = latest.readPages;
        outcome.writtenPages = latest.writtenPages;
        giveSorted(row, isDown);
        return land();
    }

    public int runs() {
        return latest.runSizes.count();
    }

    public int runSize(int run) throws IndexOutOfBoundsException {
        if (!latest.runSizes.has(run)) {
            throw new IndexOutOfBoundsException("no such run");
        }
        return latest.runSizes.valueAt(run);
    }

    public int merges() {
        return latest.mergeSizes.count();
    }

    public int merge(int merge, int what)
            throws IndexOutOfBoundsException, IllegalArgumentException {
        if (!latest.mergeSizes.has(merge)) {
            throw new IndexOutOfBoundsException("no such merge");
        }
        if (what != 0 && what != 1) {
            throw new IllegalArgumentException("what is not 0 or 1");
        }
        return what == 0 ? latest.mergeRuns.valueAt(merge) : latest.mergeSizes.valueAt(merge);
    }

    // ---- a tournament

    public int begin(int first, int count)
            throws IndexOutOfBoundsException, IllegalArgumentException, IllegalStateException {
        if (first < 0 || first >= fileCount || count > fileCount - first) {
            throw new IndexOutOfBoundsException("one of them is no file");
        }
        if (count < 2 || count > LEAF_LIMIT) {
            throw new IllegalArgumentException("count is not 2 to 8");
        }
        for (int file = first; file < first + count; file++) {
            needUp(files[file]);
        }
        tournament.prepare(first, count);
        for (int leaf = 0; leaf < count; leaf++) {
            tournament.seat(leaf, files[first + leaf]);
        }
        tournament.open();
        return tournament.leafCount;
    }

    public int next() throws IllegalStateException {
        needTournament();
        return tournament.give();
    }

    public int winner() throws IllegalStateException {
        needTournament();
        return tournament.winningLeaf;
    }

    public int loser(int node) throws IllegalStateException, IndexOutOfBoundsException {
        needTournament();
        if (!tournament.hasNode(node)) {
            throw new IndexOutOfBoundsException("no such node");
        }
        return tournament.loserAt(node);
    }

    public int matches() {
        return tournament.isOn ? tournament.matchCount : 0;
    }

    // ---- joins and groups

    public int join(int one, int other, int how)
            throws IndexOutOfBoundsException, IllegalArgumentException, IllegalStateException {
        Row a = rowOf(one);
        Row b = rowOf(other);
        needHow(how);
        needUp(a);
        needUp(b);
        needRoom();
        outcome.clear();
        joinByMerging(a, b, how);
        needFit();
        return land();
    }

    public int split(int one, int other) throws IndexOutOfBoundsException, IllegalStateException {
        Row a = rowOf(one);
        Row b = rowOf(other);
        needRoom();
        joinBySplitting(a, b);
        needFit();
        return land();
    }

    public int group(int file, int how)
            throws IndexOutOfBoundsException, IllegalArgumentException, IllegalStateException {
        Row row = rowOf(file);
        needHow(how);
        if (!row.isUp() && !row.isDown()) {
            throw new IllegalStateException("the file is neither up nor down");
        }
        needRoom();
        outcome.clear();
        outcome.readPages = pagesFor(row.count(), page);
        giveGroups(row, how);
        outcome.writtenPages = pagesFor(outcome.made, page);
        return land();
    }

    // ---- what would be (nothing is changed, nor counted)

    public int sortCost(int file, boolean isReplacing, boolean isLeast, int memory)
            throws IndexOutOfBoundsException, IllegalArgumentException {
        Row row = rowOf(file);
        needMemory(memory);
        return costOf(row, isReplacing, isLeast, memory);
    }

    public int memoryFor(int file, boolean isReplacing, int merges)
            throws IndexOutOfBoundsException, IllegalArgumentException {
        Row row = rowOf(file);
        if (merges < 0 || merges > MERGES_LIMIT) {
            throw new IllegalArgumentException("merges is not 0 to 100");
        }
        for (int some = LEAST_MEMORY; some <= MOST_MEMORY; some++) {
            trial.make(row, isReplacing, false, false, page, some);
            if (trial.mergeSizes.count() <= merges) {
                return some;
            }
        }
        return -1;
    }

    public int splitCost(int one, int other) throws IndexOutOfBoundsException {
        Row a = rowOf(one);
        Row b = rowOf(other);
        joinBySplitting(a, b);
        return outcome.readPages + outcome.writtenPages;
    }

    public double share(int one, int other) throws IndexOutOfBoundsException {
        Row a = rowOf(one);
        Row b = rowOf(other);
        if (a.count() < 1) {
            return 0.0;
        }
        keySet.clear();
        for (int place = 0; place < b.count(); place++) {
            keySet.add(b.keyAt(place));
        }
        int paired = 0;
        for (int place = 0; place < a.count(); place++) {
            if (keySet.has(a.keyAt(place))) {
                paired++;
            }
        }
        return (double) paired / (double) a.count();
    }

    public long digest() {
        long sum = fold(DIGEST_START, fileCount);
        sum = fold(sum, readPages);
        sum = fold(sum, writtenPages);
        sum = fold(sum, spiltPages);
        sum = foldSort(sum);
        sum = fold(sum, matches());
        for (int file = 0; file < fileCount; file++) {
            sum = foldFile(sum, files[file]);
        }
        return sum;
    }

    private static long fold(long sum, long number) {
        return sum * 31 + number;
    }

    private long foldSort(long start) {
        long sum = fold(start, latest.runSizes.count());
        for (int run = 0; run < latest.runSizes.count(); run++) {
            sum = fold(sum, latest.runSizes.valueAt(run));
        }
        sum = fold(sum, latest.mergeSizes.count());
        for (int merge = 0; merge < latest.mergeSizes.count(); merge++) {
            sum = fold(sum, latest.mergeRuns.valueAt(merge));
            sum = fold(sum, latest.mergeSizes.valueAt(merge));
        }
        return sum;
    }

    private long foldFile(long start, Row row) {
        long sum = fold(start, row.count());
        sum = fold(sum, pagesFor(row.count(), page));
        sum = fold(sum, orderOf(row));
        sum = fold(sum, keysIn(row));
        sum = fold(sum, costOf(row, false, false, memory));
        sum = fold(sum, costOf(row, true, true, memory));
        for (int place = 0; place < row.count(); place++) {
            sum = fold(sum, row.keyAt(place));
            sum = fold(sum, row.markAt(place));
        }
        return sum;
    }

    // ---- what the calls need, or else throw

    private Row rowOf(int file) {
        if (file < 0 || file >= fileCount) {
            throw new IndexOutOfBoundsException("no such file");
        }
        return files[file];
    }

    private void needRoom() {
        if (fileCount >= FILE_LIMIT) {
            throw new IllegalStateException("there are 12 files");
        }
    }

    private static void needSpace(Row row, int more) {
        if (row.count() + more > RECORD_LIMIT) {
            throw new IllegalStateException("the file would have more than 120 records");
        }
    }

    private static void needMemory(int memory) {
        if (memory < LEAST_MEMORY || memory > MOST_MEMORY) {
            throw new IllegalArgumentException("memory is not 3 to 12");
        }
    }

    private static void needHow(int how) {
        if (how < 0 || how > HOW_LIMIT) {
            throw new IllegalArgumentException("how is not 0 to 3");
        }
    }

    private static void needUp(Row row) {
        if (!row.isUp()) {
            throw new IllegalStateException("a file is not up");
        }
    }

    private void needTournament() {
        if (!tournament.isOn) {
            throw new IllegalStateException("there is no tournament");
        }
    }

    private void needFit() {
        if (outcome.made > RECORD_LIMIT) {
            throw new IllegalStateException("the new file would have more than 120 records");
        }
    }

    // ---- what the calls share

    private static int pagesFor(int records, int page) {
        return page < 1 ? 0 : (records + page - 1) / page;
    }

    private static int orderOf(Row row) {
        return (row.isUp() ? 1 : 0) + (row.isDown() ? 2 : 0);
    }

    private int keysIn(Row row) {
        keySet.clear();
        int keys = 0;
        for (int place = 0; place < row.count(); place++) {
            if (keySet.add(row.keyAt(place))) {
                keys++;
            }
        }
        return keys;
    }

    private int costOf(Row row, boolean isReplacing, boolean isLeast, int memory) {
        trial.make(row, isReplacing, isLeast, false, page, memory);
        return trial.readPages + trial.writtenPages;
    }

    /**
     * Of two records of a row the one with the smaller weight comes ahead. The place stands in the
     * weight, so that no two are the same, and records with the same key stay in order.
     */
    private static int weightOf(Row row, int place, boolean isDown) {
        int key = row.keyAt(place);
        return ((isDown ? -key : key) + KEY_LIMIT) * RECORD_LIMIT + place;
    }

    /** Makes the outcome the new file. All that can throw stands ahead of it. */
    private int land() {
        readPages += outcome.readPages;
        writtenPages += outcome.writtenPages;
        spiltPages += outcome.spiltPages;
        int file = addFile();
        files[file].addAll(outcome.out);
        return file;
    }

    /**
     * Whatever the runs and the merges are, they keep records with the same key in order: so the
     * new file is the whole row by weight, and only the sizes of the runs need be followed.
     */
    private void giveSorted(Row row, boolean isDown) {
        heap.empty();
        for (int place = 0; place < row.count(); place++) {
            heap.push(weightOf(row, place, isDown));
        }
        for (int given = 0; given < row.count(); given++) {
            int place = heap.pull() % RECORD_LIMIT;
            outcome.give(row.keyAt(place), row.markAt(place));
        }
    }

    private void joinByMerging(Row a, Row b, int how) {
        outcome.readPages = pagesFor(a.count(), page) + pagesFor(b.count(), page);
        int from = 0;
        int end = 0;
        int spiltReads = 0;
        for (int place = 0; place < a.count(); place++) {
            int key = a.keyAt(place);
            if (place == 0 || a.keyAt(place - 1) != key) {
                from = b.placeNotBelow(key, end);
                end = b.placeNotBelow(key + 1, from);
                boolean isRepeated = a.has(place + 1) && a.keyAt(place + 1) == key;
                spiltReads = how <= 1 && isRepeated ? spill(end - from) : 0;
            }
            outcome.readPages += spiltReads;
            if (how <= 1) {
                givePairs(a, place, b, from, end);
            }
            if (how != 0 && (how == 2) == (end > from)) {
                outcome.give(key, a.markAt(place));
            }
        }
        outcome.writtenPages += pagesFor(outcome.made, page);
    }

    /** Returns how many pages are read again for each record of the other file; 0 if none is spilt. */
    private int spill(int records) {
        if (records <= (memory - 2) * page) {
            return 0;
        }
        int pages = pagesFor(records, page);
        outcome.spiltPages += pages;
        outcome.writtenPages += pages;
        return pages;
    }

    private void givePairs(Row a, int place, Row b, int from, int end) {
        for (int partner = from; partner < end; partner++) {
            outcome.givePair(a, place, b, partner);
        }
    }

    private void joinBySplitting(Row a, Row b) {
        outcome.clear();
        splitting.page = page;
        splitting.memory = memory;
        splitRows(splitting, outcome, a, b, 0);
        outcome.writtenPages += pagesFor(outcome.made, page);
    }

    private static void splitRows(Splitting how, Outcome outcome, Row a, Row b, int depth) {
        if (a.count() == 0 || b.count() == 0) {
            return;
        }
        if (depth >= SPLIT_DEPTH || pagesFor(b.count(), how.page) <= how.memory - 2) {
            pairByParts(how, outcome, a, b);
            return;
        }
        outcome.readPages += pagesFor(a.count(), how.page) + pagesFor(b.count(), how.page);
        int fan = how.memory - 1;
        for (int number = 0; number < fan; number++) {
            Row aPart = how.fillOne(a, depth, number);
            Row bPart = how.fillOther(b, depth, number);
            outcome.writtenPages += pagesFor(aPart.count(), how.page);
            outcome.writtenPages += pagesFor(bPart.count(), how.page);
            splitRows(how, outcome, aPart, bPart, depth + 1);
        }
    }

    private static void pairByParts(Splitting how, Outcome outcome, Row a, Row b) {
        int room = Math.max(1, (how.memory - 2) * how.page);
        for (int from = 0; from < b.count(); from += room) {
            int end = Math.min(from + room, b.count());
            outcome.readPages += pagesFor(end - from, how.page) + pagesFor(a.count(), how.page);
            for (int place = 0; place < a.count(); place++) {
                for (int partner = from; partner < end; partner++) {
                    if (a.keyAt(place) == b.keyAt(partner)) {
                        outcome.givePair(a, place, b, partner);
                    }
                }
            }
        }
    }

    private void giveGroups(Row row, int how) {
        int mark = 0;
        for (int place = 0; place < row.count(); place++) {
            int key = row.keyAt(place);
            boolean isFirst = place == 0 || row.keyAt(place - 1) != key;
            mark = isFirst ? startMark(how, row.markAt(place))
                    : moreMark(how, mark, row.markAt(place));
            if (!row.has(place + 1) || row.keyAt(place + 1) != key) {
                outcome.give(key, mark);
            }
        }
    }

    private static int startMark(int how, int mark) {
        return how == 0 ? 1 : mark;
    }

    private static int moreMark(int how, int before, int mark) {
        switch (how) {
            case 0:
                return before + 1;
            case 1:
                return (before + mark) % MARK_COUNT;
            case 2:
                return Math.min(before, mark);
            default:
                return Math.max(before, mark);
        }
    }

    /** Records in order, at most 120. */
    private static final class Row {
        private final int[] keys = new int[RECORD_LIMIT];
        private final int[] marks = new int[RECORD_LIMIT];
        private int count = 0;

        void empty() {
            count = 0;
        }

        int count() {
            return count;
        }

        boolean has(int place) {
            return place >= 0 && place < count;
        }

        int keyAt(int place) {
            return place >= 0 && place < count ? keys[place] : 0;
        }

        int markAt(int place) {
            return place >= 0 && place < count ? marks[place] : 0;
        }

        void add(int key, int mark) {
            if (count < RECORD_LIMIT) {
                keys[count] = key;
                marks[count] = mark;
                count++;
            }
        }

        void addAll(Row other) {
            for (int place = 0; place < other.count; place++) {
                add(other.keys[place], other.marks[place]);
            }
        }

        boolean isUp() {
            for (int place = 1; place < count; place++) {
                if (keys[place] < keys[place - 1]) {
                    return false;
                }
            }
            return true;
        }

        boolean isDown() {
            for (int place = 1; place < count; place++) {
                if (keys[place] > keys[place - 1]) {
                    return false;
                }
            }
            return true;
        }

        /** The first place from the one told on whose key is not below this one, if the row is up. */
        int placeNotBelow(int key, int from) {
            int place = Math.max(0, from);
            while (place < count && keys[place] < key) {
                place++;
            }
            return place;
        }
    }

    /** A set of keys, a bit for each. */
    private static final class KeySet {
        private final long[] words = new long[(2 * KEY_LIMIT + 1) / 64 + 1];

        void clear() {
            for (int word = 0; word < words.length; word++) {
                words[word] = 0;
            }
        }

        boolean has(int key) {
            int word = wordOf(key);
            return word >= 0 && word < words.length && (words[word] & bitOf(key)) != 0;
        }

        /** Returns whether the key is new. */
        boolean add(int key) {
            int word = wordOf(key);
            if (word < 0 || word >= words.length || (words[word] & bitOf(key)) != 0) {
                return false;
            }
            words[word] |= bitOf(key);
            return true;
        }

        private static int wordOf(int key) {
            return (key + KEY_LIMIT) >> 6;
        }

        private static long bitOf(int key) {
            return 1L << ((key + KEY_LIMIT) & 63);
        }
    }

    /** A list of numbers, at most as many as a file has records. */
    private static final class Numbers {
        private final int[] values = new int[RECORD_LIMIT];
        private int count = 0;

        void empty() {
            count = 0;
        }

        int count() {
            return count;
        }

        boolean has(int place) {
            return place >= 0 && place < count;
        }

        int valueAt(int place) {
            return place >= 0 && place < count ? values[place] : 0;
        }

        void add(int value) {
            if (count < values.length) {
                values[count] = value;
                count++;
            }
        }

        void addAll(Numbers other) {
            for (int place = 0; place < other.count; place++) {
                add(other.values[place]);
            }
        }

        void set(int place, int value) {
            if (place >= 0 && place < count) {
                values[place] = value;
            }
        }

        void cutTo(int length) {
            if (length >= 0 && length < count) {
                count = length;
            }
        }

        int takeAt(int place) {
            if (place < 0 || place >= count) {
                return 0;
            }
            int value = values[place];
            for (int behind = place + 1; behind < count; behind++) {
                values[behind - 1] = values[behind];
            }
            count--;
            return value;
        }

        /** The place of the least number; of several the one that is ahead. */
        int leastPlace() {
            int least = 0;
            for (int place = 1; place < count; place++) {
                if (values[place] < values[least]) {
                    least = place;
                }
            }
            return least;
        }
    }

    /** A heap that gives the least of its numbers; at most as many as a file has records. */
    private static final class Heap {
        private final int[] held = new int[RECORD_LIMIT];
        private int count = 0;

        void empty() {
            count = 0;
        }

        void push(int value) {
            if (count >= held.length) {
                return;
            }
            int place = count;
            count++;
            while (place > 0 && held[(place - 1) / 2] > value) {
                held[place] = held[(place - 1) / 2];
                place = (place - 1) / 2;
            }
            held[place] = value;
        }

        int pull() {
            if (count < 1) {
                return 0;
            }
            int least = held[0];
            count--;
            sinkFromTop(held[count]);
            return least;
        }

        private void sinkFromTop(int value) {
            int place = 0;
            for (int left = 1; left < count; left = 2 * place + 1) {
                int lesser = left + 1 < count && held[left + 1] < held[left] ? left + 1 : left;
                if (held[lesser] > value) {
                    break;
                }
                held[place] = held[lesser];
                place = lesser;
            }
            held[place] = value;
        }
    }

    /** The runs and the merges of a sort, and what they read and write. */
    private static final class Plan {
        final Numbers runSizes = new Numbers();
        final Numbers mergeRuns = new Numbers();
        final Numbers mergeSizes = new Numbers();
        int readPages = 0;
        int writtenPages = 0;
        private final Numbers row = new Numbers();
        private final Heap heap = new Heap();
        private int page = FIRST_SIZE;

        void make(Row file, boolean isReplacing, boolean isLeast, boolean isDown, int page,
                int memory) {
            this.page = page;
            runSizes.empty();
            mergeRuns.empty();
            mergeSizes.empty();
            if (isReplacing) {
                runByReplacing(file, isDown, memory * page);
            } else {
                runByLoading(file.count(), memory * page);
            }
            countRuns(file.count());
            row.empty();
            row.addAll(runSizes);
            if (isLeast) {
                mergeByLeast(memory - 1);
            } else {
                mergeByLevels(memory - 1);
            }
        }

        private void runByLoading(int records, int room) {
            int step = Math.max(1, room);
            for (int from = 0; from < records; from += step) {
                runSizes.add(Math.min(step, records - from));
            }
        }

        /**
         * The heap holds the weights of the records in the memory, those that are frozen with the
         * number of the next run above them: so one of them is the least only if all are frozen.
         */
        private void runByReplacing(Row file, boolean isDown, int room) {
            heap.empty();
            int records = file.count();
            int filled = Math.min(room, records);
            for (int place = 0; place < filled; place++) {
                heap.push(weightOf(file, place, isDown));
            }
            int run = 0;
            int size = 0;
            for (int given = 0; given < records; given++) {
                int least = heap.pull();
                if (least / WEIGHTS > run) {
                    runSizes.add(size);
                    run++;
                    size = 0;
                }
                size++;
                if (filled < records) {
                    int weight = weightOf(file, filled, isDown);
                    boolean isFrozen = weight < least % WEIGHTS;
                    heap.push((isFrozen ? run + 1 : run) * WEIGHTS + weight);
                    filled++;
                }
            }
            if (size > 0) {
                runSizes.add(size);
            }
        }

        private void countRuns(int records) {
            readPages = pagesFor(records, page);
            writtenPages = 0;
            for (int run = 0; run < runSizes.count(); run++) {
                writtenPages += pagesFor(runSizes.valueAt(run), page);
            }
        }

        private void mergeByLevels(int fan) {
            for (int level = 0; level < RECORD_LIMIT && row.count() > 1; level++) {
                mergeLevel(Math.max(2, fan));
            }
        }

        private void mergeLevel(int fan) {
            int length = row.count();
            int made = 0;
            for (int from = 0; from < length; from += fan) {
                int end = Math.min(from + fan, length);
                int size = 0;
                for (int run = from; run < end; run++) {
                    size += row.valueAt(run);
                }
                if (end - from > 1) {
                    for (int run = from; run < end; run++) {
                        readPages += pagesFor(row.valueAt(run), page);
                    }
                    writtenPages += pagesFor(size, page);
                    noteMerge(end - from, size);
                }
                row.set(made, size);
                made++;
            }
            row.cutTo(made);
        }

        private void mergeByLeast(int fan) {
            int some = Math.floorMod(row.count() - 2, Math.max(1, fan - 1)) + 2;
            for (int merge = 0; merge < RECORD_LIMIT && row.count() > 1; merge++) {
                mergeLeast(some);
                some = fan;
            }
        }

        private void mergeLeast(int runs) {
            int size = 0;
            for (int taken = 0; taken < runs; taken++) {
                int least = row.takeAt(row.leastPlace());
                readPages += pagesFor(least, page);
                size += least;
            }
            row.add(size);
            writtenPages += pagesFor(size, page);
            noteMerge(runs, size);
        }

        private void noteMerge(int runs, int size) {
            mergeRuns.add(runs);
            mergeSizes.add(size);
        }
    }

    /** What a sort, a join or a group makes, and what it reads and writes, before it is landed. */
    private static final class Outcome {
        final Row out = new Row();
        /** How many records there are: also those for which the row has no room. */
        int made = 0;
        int readPages = 0;
        int writtenPages = 0;
        int spiltPages = 0;

        void clear() {
            out.empty();
            made = 0;
            readPages = 0;
            writtenPages = 0;
            spiltPages = 0;
        }

        void give(int key, int mark) {
            made++;
            out.add(key, mark);
        }

        void givePair(Row a, int place, Row b, int partner) {
            give(a.keyAt(place), (100 * a.markAt(place) + b.markAt(partner)) % MARK_COUNT);
        }
    }

    /** The rows of a join by splitting: one of each file for each depth below the files. */
    private static final class Splitting {
        int page = FIRST_SIZE;
        int memory = FIRST_SIZE;
        private final Row[] ones = new Row[SPLIT_DEPTH];
        private final Row[] others = new Row[SPLIT_DEPTH];
        private final Row spare = new Row();

        Splitting() {
            for (int depth = 0; depth < SPLIT_DEPTH; depth++) {
                ones[depth] = new Row();
                others[depth] = new Row();
            }
        }

        Row fillOne(Row from, int depth, int number) {
            Row part = depth >= 0 && depth < ones.length ? ones[depth] : spare;
            fill(part, from, depth, number);
            return part;
        }

        Row fillOther(Row from, int depth, int number) {
            Row part = depth >= 0 && depth < others.length ? others[depth] : spare;
            fill(part, from, depth, number);
            return part;
        }

        private void fill(Row part, Row from, int depth, int number) {
            int fan = Math.max(2, memory - 1);
            int power = 1;
            for (int level = 0; level < depth && level < SPLIT_DEPTH; level++) {
                power *= fan;
            }
            part.empty();
            for (int place = 0; place < from.count(); place++) {
                int key = from.keyAt(place);
                if (Math.abs(key) / power % fan == number) {
                    part.add(key, from.markAt(place));
                }
            }
        }
    }

    /** A tree of losers over the next records of some files. */
    private static final class Tournament {
        boolean isOn = false;
        /** The least power of 2 that is not below how many files there are. */
        int leafCount = 0;
        int winningLeaf = 0;
        int matchCount = 0;
        private int firstFile = 0;
        private int rowCount = 0;
        private final Row[] rows = new Row[LEAF_LIMIT];
        private final int[] places = new int[LEAF_LIMIT];
        private final int[] losers = new int[LEAF_LIMIT];
        private final int[] winners = new int[2 * LEAF_LIMIT];

        void prepare(int first, int count) {
            firstFile = first;
            rowCount = count;
            leafCount = 2;
            while (leafCount < count && leafCount < LEAF_LIMIT) {
                leafCount *= 2;
            }
        }

        void seat(int leaf, Row row) {
            if (leaf >= 0 && leaf < LEAF_LIMIT) {
                rows[leaf] = row;
                places[leaf] = 0;
            }
        }

        void open() {
            isOn = true;
            matchCount = 0;
            for (int leaf = 0; leaf < leafCount; leaf++) {
                winners[leafCount + leaf] = leaf;
            }
            for (int node = leafCount - 1; node >= 1; node--) {
                winners[node] = playAt(node, winners[2 * node], winners[2 * node + 1]);
            }
            winningLeaf = winners[1];
        }

        /** Ends it, if the file is one of its own. */
        void forget(int file) {
            if (file >= firstFile && file < firstFile + rowCount) {
                isOn = false;
            }
        }

        boolean hasNode(int node) {
            return node >= 1 && node < leafCount;
        }

        int loserAt(int node) {
            return hasNode(node) ? losers[node] : 0;
        }

        int give() {
            int leaf = winningLeaf;
            if (isOver(leaf)) {
                return NO_KEY;
            }
            int key = keyOf(leaf);
            places[leaf]++;
            for (int node = (leafCount + leaf) / 2; node >= 1; node /= 2) {
                leaf = playAt(node, leaf, loserAt(node));
            }
            winningLeaf = leaf;
            return key;
        }

        /** A match whose loser is kept at the node; returns who wins. */
        private int playAt(int node, int one, int other) {
            boolean isOne = isWinning(one, other);
            if (hasNode(node)) {
                losers[node] = isOne ? other : one;
            }
            matchCount++;
            return isOne ? one : other;
        }

        private boolean isWinning(int one, int other) {
            if (isOver(one) != isOver(other)) {
                return isOver(other);
            }
            if (!isOver(one) && keyOf(one) != keyOf(other)) {
                return keyOf(one) < keyOf(other);
            }
            return one < other;
        }

        private boolean isOver(int leaf) {
            return leaf < 0 || leaf >= rowCount || rows[leaf] == null
                    || places[leaf] >= rows[leaf].count();
        }

        private int keyOf(int leaf) {
            return isOver(leaf) ? NO_KEY : rows[leaf].keyAt(places[leaf]);
        }
    }
}
