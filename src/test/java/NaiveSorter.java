import java.util.ArrayList;
import java.util.HashSet;
import java.util.List;
import java.util.Set;
import java.util.TreeSet;

/**
 * The document once more, word by word and with real runs of records, to compare the program with.
 * A call that the document lets throw throws here, too.
 */
final class NaiveSorter {
    /** A record, and its place in the file that is sorted. */
    record Rec(int key, int mark, int place) {
    }

    static final class Counts {
        int read;
        int written;
        int spilt;
        List<Integer> runSizes = new ArrayList<>();
        List<int[]> merges = new ArrayList<>();
        List<Rec> made = new ArrayList<>();
    }

    private final List<List<Rec>> files = new ArrayList<>();
    private int page = 4;
    private int memory = 4;
    private int read;
    private int written;
    private int spilt;
    private Counts latest = new Counts();
    private int first;
    private int leaves;
    private List<List<Rec>> rows;
    private int[] kept;
    private int winning;
    private int matches;

    private List<Rec> file(int file) {
        if (file < 0 || file >= files.size()) {
            throw new IndexOutOfBoundsException();
        }
        return files.get(file);
    }

    private static void argument(boolean isFine) {
        if (!isFine) {
            throw new IllegalArgumentException();
        }
    }

    private static void state(boolean isFine) {
        if (!isFine) {
            throw new IllegalStateException();
        }
    }

    private int pagesOf(int records) {
        return records / page + (records % page > 0 ? 1 : 0);
    }

    int setMemory(int newPage, int newMemory) {
        argument(newPage >= 2 && newPage <= 10);
        argument(newMemory >= 3 && newMemory <= 12);
        int before = memory;
        page = newPage;
        memory = newMemory;
        return before;
    }

    int addFile() {
        state(files.size() < 12);
        files.add(new ArrayList<>());
        return files.size() - 1;
    }

    private void touched(int file) {
        if (rows != null && file >= first && file < first + rows.size()) {
            rows = null;
        }
    }

    int put(int file, int key, int mark) {
        List<Rec> row = file(file);
        argument(key >= -999 && key <= 999);
        argument(mark >= 0 && mark <= 9999);
        state(row.size() < 120);
        touched(file);
        row.add(new Rec(key, mark, 0));
        return row.size();
    }

    int putRow(int file, int start, int step, int span, int count) {
        List<Rec> row = file(file);
        argument(start >= 0 && start <= 999);
        argument(step >= -999 && step <= 999);
        argument(span >= 1 && span <= 999);
        argument(count >= 1 && count <= 120);
        state(row.size() + count <= 120);
        touched(file);
        for (int k = 0; k < count; k++) {
            int key = (start + k * step) % span;
            row.add(new Rec(key < 0 ? key + span : key, k % 100, 0));
        }
        return row.size();
    }

    int drop() {
        state(!files.isEmpty());
        touched(files.size() - 1);
        files.remove(files.size() - 1);
        return files.size();
    }

    int files() {
        return files.size();
    }

    int size(int file) {
        return file(file).size();
    }

    int at(int file, int place, boolean isMark) {
        Rec rec = file(file).get(place);
        return isMark ? rec.mark : rec.key;
    }

    int pages(int file) {
        return pagesOf(file(file).size());
    }

    private static boolean isUp(List<Rec> row) {
        return inversionsOf(row, 1) == 0;
    }

    private static boolean isDown(List<Rec> row) {
        return inversionsOf(row, -1) == 0;
    }

    private static int inversionsOf(List<Rec> row, int sign) {
        int pairs = 0;
        for (int one = 0; one < row.size(); one++) {
            for (int two = one + 1; two < row.size(); two++) {
                if (sign * row.get(one).key > sign * row.get(two).key) {
                    pairs++;
                }
            }
        }
        return pairs;
    }

    int order(int file) {
        return (isUp(file(file)) ? 1 : 0) + (isDown(file(file)) ? 2 : 0);
    }

    int distinct(int file) {
        Set<Integer> keys = new TreeSet<>();
        for (Rec rec : file(file)) {
            keys.add(rec.key);
        }
        return keys.size();
    }

    int inversions(int file) {
        return inversionsOf(file(file), 1);
    }

    int read() {
        return read;
    }

    int written() {
        return written;
    }

    int spilt() {
        return spilt;
    }

    private static boolean ahead(Rec one, Rec other, boolean isDown) {
        if (one.key != other.key) {
            return isDown ? one.key > other.key : one.key < other.key;
        }
        return one.place < other.place;
    }

    private static Rec firstOf(List<Rec> recs, boolean isDown) {
        Rec best = null;
        for (Rec rec : recs) {
            if (best == null || ahead(rec, best, isDown)) {
                best = rec;
            }
        }
        return best;
    }

    private static List<Rec> ordered(List<Rec> recs, boolean isDown) {
        List<Rec> left = new ArrayList<>(recs);
        List<Rec> all = new ArrayList<>();
        while (!left.isEmpty()) {
            Rec best = firstOf(left, isDown);
            left.remove(best);
            all.add(best);
        }
        return all;
    }

    private static List<List<Rec>> loaded(List<Rec> file, int room, boolean isDown) {
        List<List<Rec>> runs = new ArrayList<>();
        for (int from = 0; from < file.size(); from += room) {
            int end = Math.min(file.size(), from + room);
            runs.add(ordered(file.subList(from, end), isDown));
        }
        return runs;
    }

    private static List<List<Rec>> replaced(List<Rec> file, int room, boolean isDown) {
        List<List<Rec>> runs = new ArrayList<>();
        List<Rec> there = new ArrayList<>(file.subList(0, Math.min(room, file.size())));
        Set<Rec> frozen = new HashSet<>();
        List<Rec> run = new ArrayList<>();
        int next = there.size();
        while (!there.isEmpty()) {
            List<Rec> free = new ArrayList<>(there);
            free.removeAll(frozen);
            if (free.isEmpty()) {
                frozen.clear();
                runs.add(run);
                run = new ArrayList<>();
                continue;
            }
            Rec gone = firstOf(free, isDown);
            there.remove(gone);
            run.add(gone);
            if (next < file.size()) {
                Rec come = file.get(next++);
                there.add(come);
                if (ahead(come, gone, isDown)) {
                    frozen.add(come);
                }
            }
        }
        if (!run.isEmpty()) {
            runs.add(run);
        }
        return runs;
    }

    /** Merges by the next records of the runs, as long as there are some. */
    private List<Rec> merged(List<List<Rec>> runs, boolean isDown, Counts counts) {
        List<Rec> made = new ArrayList<>();
        int[] next = new int[runs.size()];
        while (true) {
            int best = -1;
            for (int i = 0; i < next.length; i++) {
                if (next[i] < runs.get(i).size() && (best < 0
                        || ahead(runs.get(i).get(next[i]), runs.get(best).get(next[best]), isDown))) {
                    best = i;
                }
            }
            if (best < 0) {
                break;
            }
            made.add(runs.get(best).get(next[best]++));
        }
        for (List<Rec> run : runs) {
            counts.read += pagesOf(run.size());
        }
        counts.written += pagesOf(made.size());
        counts.merges.add(new int[] {runs.size(), made.size()});
        return made;
    }

    private Counts sorted(List<Rec> row, boolean isReplacing, boolean isLeast, boolean isDown,
            int some) {
        Counts counts = new Counts();
        List<Rec> file = new ArrayList<>();
        for (Rec rec : row) {
            file.add(new Rec(rec.key, rec.mark, file.size()));
        }
        List<List<Rec>> runs = isReplacing ? replaced(file, some * page, isDown)
                : loaded(file, some * page, isDown);
        counts.read += pagesOf(file.size());
        for (List<Rec> run : runs) {
            counts.runSizes.add(run.size());
            counts.written += pagesOf(run.size());
        }
        int fan = some - 1;
        if (isLeast && runs.size() > 1) {
            int many = (runs.size() - 2) % (fan - 1) + 2;
            while (runs.size() > 1) {
                List<List<Rec>> chosen = new ArrayList<>();
                for (int i = 0; i < many; i++) {
                    int best = 0;
                    for (int j = 1; j < runs.size(); j++) {
                        if (runs.get(j).size() < runs.get(best).size()) {
                            best = j;
                        }
                    }
                    chosen.add(runs.remove(best));
                }
                runs.add(merged(chosen, isDown, counts));
                many = fan;
            }
        }
        while (runs.size() > 1) {
            List<List<Rec>> level = new ArrayList<>();
            for (int from = 0; from < runs.size(); from += fan) {
                List<List<Rec>> part = runs.subList(from, Math.min(from + fan, runs.size()));
                level.add(part.size() == 1 ? part.get(0) : merged(part, isDown, counts));
            }
            runs = level;
        }
        counts.made = runs.isEmpty() ? new ArrayList<>() : runs.get(0);
        return counts;
    }

    private int land(Counts counts) {
        read += counts.read;
        written += counts.written;
        spilt += counts.spilt;
        files.add(new ArrayList<>(counts.made));
        return files.size() - 1;
    }

    int sort(int file, boolean isReplacing, boolean isLeast, boolean isDown) {
        List<Rec> row = file(file);
        state(files.size() < 12);
        latest = sorted(row, isReplacing, isLeast, isDown, memory);
        return land(latest);
    }

    int runs() {
        return latest.runSizes.size();
    }

    int runSize(int run) {
        return latest.runSizes.get(run);
    }

    int merges() {
        return latest.merges.size();
    }

    int merge(int merge, int what) {
        int[] one = latest.merges.get(merge);
        argument(what == 0 || what == 1);
        return one[what];
    }

    private boolean isOver(int leaf) {
        return leaf >= rows.size() || rows.get(leaf).isEmpty();
    }

    private boolean wins(int one, int other) {
        matches++;
        int oneKey = isOver(one) ? 5000 : rows.get(one).get(0).key;
        int otherKey = isOver(other) ? 5000 : rows.get(other).get(0).key;
        return oneKey != otherKey ? oneKey < otherKey : one < other;
    }

    private int played(int node) {
        if (node >= leaves) {
            return node - leaves;
        }
        int one = played(2 * node);
        int other = played(2 * node + 1);
        boolean isOne = wins(one, other);
        kept[node] = isOne ? other : one;
        return isOne ? one : other;
    }

    int begin(int start, int count) {
        if (start < 0 || start >= files.size() || (long) start + count > files.size()) {
            throw new IndexOutOfBoundsException();
        }
        argument(count >= 2 && count <= 8);
        for (int i = 0; i < count; i++) {
            state(isUp(files.get(start + i)));
        }
        first = start;
        rows = new ArrayList<>();
        for (int i = 0; i < count; i++) {
            rows.add(new ArrayList<>(files.get(start + i)));
        }
        leaves = count == 2 ? 2 : count <= 4 ? 4 : 8;
        kept = new int[leaves];
        matches = 0;
        winning = played(1);
        return leaves;
    }

    int next() {
        state(rows != null);
        if (isOver(winning)) {
            return 1000;
        }
        int key = rows.get(winning).remove(0).key;
        int climber = winning;
        for (int node = (leaves + winning) / 2; node > 0; node /= 2) {
            if (!wins(climber, kept[node])) {
                int up = kept[node];
                kept[node] = climber;
                climber = up;
            }
        }
        winning = climber;
        return key;
    }

    int winner() {
        state(rows != null);
        return winning;
    }

    int loser(int node) {
        state(rows != null);
        if (node < 1 || node >= leaves) {
            throw new IndexOutOfBoundsException();
        }
        return kept[node];
    }

    int matches() {
        return rows == null ? 0 : matches;
    }

    private static Rec pair(Rec a, Rec b) {
        return new Rec(a.key, (100 * a.mark + b.mark) % 10000, 0);
    }

    int join(int one, int other, int how) {
        List<Rec> a = file(one);
        List<Rec> b = file(other);
        argument(how >= 0 && how <= 3);
        state(isUp(a) && isUp(b) && files.size() < 12);
        Counts counts = new Counts();
        counts.read = pagesOf(a.size()) + pagesOf(b.size());
        for (Rec rec : a) {
            boolean hasPair = false;
            for (Rec partner : b) {
                if (partner.key == rec.key) {
                    hasPair = true;
                    if (how < 2) {
                        counts.made.add(pair(rec, partner));
                    }
                }
            }
            if (how == 1 && !hasPair || how == 2 && hasPair || how == 3 && !hasPair) {
                counts.made.add(rec);
            }
        }
        for (int key = -999; key <= 999 && how < 2; key++) {
            int ofA = 0;
            int ofB = 0;
            for (Rec rec : a) {
                ofA += rec.key == key ? 1 : 0;
            }
            for (Rec rec : b) {
                ofB += rec.key == key ? 1 : 0;
            }
            if (ofA >= 2 && ofB > (memory - 2) * page) {
                counts.spilt += pagesOf(ofB);
                counts.written += pagesOf(ofB);
                counts.read += pagesOf(ofB) * ofA;
            }
        }
        counts.written += pagesOf(counts.made.size());
        state(counts.made.size() <= 120);
        return land(counts);
    }

    private void splitAt(List<Rec> a, List<Rec> b, int depth, Counts counts) {
        if (a.isEmpty() || b.isEmpty()) {
            return;
        }
        if (depth == 3 || pagesOf(b.size()) <= memory - 2) {
            int room = (memory - 2) * page;
            for (int from = 0; from < b.size(); from += room) {
                List<Rec> part = b.subList(from, Math.min(b.size(), from + room));
                counts.read += pagesOf(part.size()) + pagesOf(a.size());
                for (Rec rec : a) {
                    for (Rec partner : part) {
                        if (rec.key == partner.key) {
                            counts.made.add(pair(rec, partner));
                        }
                    }
                }
            }
            return;
        }
        counts.read += pagesOf(a.size()) + pagesOf(b.size());
        List<List<Rec>> rowsOfA = rowsAt(a, depth, counts);
        List<List<Rec>> rowsOfB = rowsAt(b, depth, counts);
        for (int i = 0; i < memory - 1; i++) {
            splitAt(rowsOfA.get(i), rowsOfB.get(i), depth + 1, counts);
        }
    }

    private List<List<Rec>> rowsAt(List<Rec> from, int depth, Counts counts) {
        List<List<Rec>> parts = new ArrayList<>();
        for (int i = 0; i < memory - 1; i++) {
            parts.add(new ArrayList<>());
        }
        for (Rec rec : from) {
            int digits = Math.abs(rec.key);
            for (int i = 0; i < depth; i++) {
                digits /= memory - 1;
            }
            parts.get(digits % (memory - 1)).add(rec);
        }
        for (List<Rec> part : parts) {
            counts.written += pagesOf(part.size());
        }
        return parts;
    }

    private Counts splitOf(int one, int other) {
        Counts counts = new Counts();
        splitAt(file(one), file(other), 0, counts);
        counts.written += pagesOf(counts.made.size());
        return counts;
    }

    int split(int one, int other) {
        file(one);
        file(other);
        state(files.size() < 12);
        Counts counts = splitOf(one, other);
        state(counts.made.size() <= 120);
        return land(counts);
    }

    int group(int file, int how) {
        List<Rec> row = file(file);
        argument(how >= 0 && how <= 3);
        state(isUp(row) || isDown(row));
        state(files.size() < 12);
        Counts counts = new Counts();
        List<Integer> done = new ArrayList<>();
        for (Rec rec : row) {
            if (done.contains(rec.key)) {
                continue;
            }
            done.add(rec.key);
            int many = 0;
            int sum = 0;
            int least = 10000;
            int greatest = -1;
            for (Rec other : row) {
                if (other.key == rec.key) {
                    many++;
                    sum += other.mark;
                    least = Math.min(least, other.mark);
                    greatest = Math.max(greatest, other.mark);
                }
            }
            int[] marks = {many, sum % 10000, least, greatest};
            counts.made.add(new Rec(rec.key, marks[how], 0));
        }
        counts.read = pagesOf(row.size());
        counts.written = pagesOf(counts.made.size());
        return land(counts);
    }

    int sortCost(int file, boolean isReplacing, boolean isLeast, int some) {
        List<Rec> row = file(file);
        argument(some >= 3 && some <= 12);
        Counts counts = sorted(row, isReplacing, isLeast, false, some);
        return counts.read + counts.written;
    }

    int memoryFor(int file, boolean isReplacing, int merges) {
        List<Rec> row = file(file);
        argument(merges >= 0 && merges <= 100);
        for (int some = 3; some <= 12; some++) {
            if (sorted(row, isReplacing, false, false, some).merges.size() <= merges) {
                return some;
            }
        }
        return -1;
    }

    int splitCost(int one, int other) {
        Counts counts = splitOf(one, other);
        return counts.read + counts.written;
    }

    double share(int one, int other) {
        List<Rec> a = file(one);
        List<Rec> b = file(other);
        double paired = 0;
        for (Rec rec : a) {
            boolean hasPair = false;
            for (Rec partner : b) {
                hasPair |= partner.key == rec.key;
            }
            paired += hasPair ? 1 : 0;
        }
        return a.isEmpty() ? 0 : paired / a.size();
    }

    long digest() {
        List<Long> all = new ArrayList<>();
        all.add((long) files());
        all.add((long) read);
        all.add((long) written);
        all.add((long) spilt);
        all.add((long) runs());
        for (int size : latest.runSizes) {
            all.add((long) size);
        }
        all.add((long) merges());
        for (int[] merge : latest.merges) {
            all.add((long) merge[0]);
            all.add((long) merge[1]);
        }
        all.add((long) matches());
        for (int file = 0; file < files.size(); file++) {
            all.add((long) size(file));
            all.add((long) pages(file));
            all.add((long) order(file));
            all.add((long) distinct(file));
            all.add((long) sortCost(file, false, false, memory));
            all.add((long) sortCost(file, true, true, memory));
            for (Rec rec : files.get(file)) {
                all.add((long) rec.key);
                all.add((long) rec.mark);
            }
        }
        long d = 58067;
        for (long v : all) {
            d = d * 31 + v;
        }
        return d;
    }
}
