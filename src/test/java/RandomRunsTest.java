/** Long runs of calls, always the same, on the program and on the naive one, answer by answer. */
public final class RandomRunsTest {
    private static final int RUNS = 1500;
    /** An object is promised for so many calls, and no more. */
    private static final int CALLS = 512;

    private long seed;
    private final MoraineSort x = new MoraineSort();
    private final NaiveSorter y = new NaiveSorter();
    private final StringBuilder done = new StringBuilder();
    private int calls = 0;
    private boolean isWrong = false;

    private RandomRunsTest(int run) {
        seed = run * 7919L + 17;
    }

    public static void main(String[] args) {
        for (int run = 0; run < RUNS; run++) {
            RandomRunsTest test = new RandomRunsTest(run);
            while (test.calls < CALLS && !test.isWrong) {
                test.call();
            }
        }
        Check.end("RandomRunsTest");
    }

    /** From 0 to below the bound. */
    private int some(int bound) {
        seed = seed * 6364136223846793005L + 1442695040888963407L;
        return (int) ((seed >>> 33) % bound);
    }

    private boolean coin() {
        return some(2) == 0;
    }

    private int between(int least, int most) {
        return least + some(most - least + 1);
    }

    /** Mostly within the bounds, now and then a little or far outside. */
    private int near(int least, int most) {
        switch (some(60)) {
            case 0:
                return least - 1;
            case 1:
                return most + 1;
            case 2:
                return coin() ? least : most;
            case 3:
                return some(4) == 0 ? (coin() ? Integer.MIN_VALUE : Integer.MAX_VALUE)
                        : between(least, most);
            default:
                return between(least, most);
        }
    }

    private int file() {
        return near(0, Math.max(0, y.files() - 1));
    }

    /** Mostly a file that is up, if some tries find one. */
    private int upFile() {
        int file = file();
        for (int i = 0; i < 8 && !isUp(file); i++) {
            file = file();
        }
        return file;
    }

    private boolean isUp(int file) {
        return file >= 0 && file < y.files() && (y.order(file) & 1) != 0;
    }

    /** How many files from this one on are up. */
    private int upsFrom(int file) {
        int count = 0;
        while (count < 12 && isUp(file + count)) {
            count++;
        }
        return count;
    }

    private void compare(String what, Check.Call program, Check.Call naive) {
        if (calls == CALLS || isWrong) {
            return;
        }
        calls++;
        done.append(what).append('\n');
        String want = Check.said(naive);
        String got = Check.said(program);
        if (!want.equals(got)) {
            isWrong = true;
            System.out.println(done);
            Check.due(what, want, () -> got);
        }
    }

    private void call() {
        int kind = some(100);
        if (kind < 36) {
            write(kind);
        } else if (kind < 56) {
            make(kind);
        } else if (kind < 72) {
            tournament(kind);
        } else if (kind < 80) {
            askCosts();
        } else if (kind < 83) {
            compare("digest", () -> x.digest(), () -> y.digest());
        } else {
            askFile();
            askCounts();
        }
    }

    private void write(int kind) {
        int file = file();
        if (kind < 4) {
            int page = near(2, coin() ? 4 : 10);
            int memory = near(3, coin() ? 5 : 12);
            compare("setMemory(" + page + ", " + memory + ")", () -> x.setMemory(page, memory),
                    () -> y.setMemory(page, memory));
        } else if (kind < 12) {
            compare("addFile()", () -> x.addFile(), () -> y.addFile());
        } else if (kind < 20) {
            int key = some(3) == 0 ? near(-999, 999) : between(-6, 6);
            int mark = near(0, 9999);
            compare("put(" + file + ", " + key + ", " + mark + ")", () -> x.put(file, key, mark),
                    () -> y.put(file, key, mark));
        } else if (kind < 28) {
            boolean isUpRow = coin();
            int first = coin() ? near(0, 999) : some(10);
            int step = isUpRow ? some(3) : some(3) == 0 ? near(-999, 999) : between(-12, 12);
            int span = isUpRow ? 999 : some(3) == 0 ? between(1, 12) : near(1, 999);
            int count = some(3) == 0 ? near(1, 120) : between(1, 20);
            compare("putRow(" + file + ", " + first + ", " + step + ", " + span + ", " + count
                    + ")", () -> x.putRow(file, first, step, span, count),
                    () -> y.putRow(file, first, step, span, count));
        } else {
            int many = y.files() > 9 ? some(6) : 1;
            for (int i = 0; i < many; i++) {
                compare("drop()", () -> x.drop(), () -> y.drop());
            }
        }
    }

    private void make(int kind) {
        int one = kind < 44 ? file() : upFile();
        int other = some(5) == 0 ? one : upFile();
        int how = near(0, 3);
        boolean isReplacing = coin();
        boolean isLeast = coin();
        boolean isDown = some(3) == 0;
        if (kind < 44) {
            compare("sort(" + one + ", " + isReplacing + ", " + isLeast + ", " + isDown + ")",
                    () -> x.sort(one, isReplacing, isLeast, isDown),
                    () -> y.sort(one, isReplacing, isLeast, isDown));
        } else if (kind < 49) {
            compare("join(" + one + ", " + other + ", " + how + ")", () -> x.join(one, other, how),
                    () -> y.join(one, other, how));
        } else if (kind < 53) {
            compare("split(" + one + ", " + other + ")", () -> x.split(one, other),
                    () -> y.split(one, other));
        } else {
            compare("group(" + one + ", " + how + ")", () -> x.group(one, how),
                    () -> y.group(one, how));
        }
    }

    private void tournament(int kind) {
        int first = upFile();
        int count = some(4) == 0 ? near(2, 8) : Math.min(8, upsFrom(first));
        int node = near(1, 7);
        if (kind < 61) {
            compare("begin(" + first + ", " + count + ")", () -> x.begin(first, count),
                    () -> y.begin(first, count));
        } else {
            int many = y.matches() > 0 ? some(40) : 1;
            for (int i = 0; i < many; i++) {
                compare("next()", () -> x.next(), () -> y.next());
                compare("winner()", () -> x.winner(), () -> y.winner());
            }
        }
        compare("winner()", () -> x.winner(), () -> y.winner());
        compare("loser(" + node + ")", () -> x.loser(node), () -> y.loser(node));
        compare("matches()", () -> x.matches(), () -> y.matches());
    }

    private void askCosts() {
        int one = file();
        int other = some(5) == 0 ? one : file();
        boolean isReplacing = coin();
        boolean isLeast = coin();
        int memory = near(3, 12);
        int merges = coin() ? near(0, 100) : near(0, 5);
        compare("sortCost(" + one + ", " + isReplacing + ", " + isLeast + ", " + memory + ")",
                () -> x.sortCost(one, isReplacing, isLeast, memory),
                () -> y.sortCost(one, isReplacing, isLeast, memory));
        compare("memoryFor(" + one + ", " + isReplacing + ", " + merges + ")",
                () -> x.memoryFor(one, isReplacing, merges),
                () -> y.memoryFor(one, isReplacing, merges));
        compare("splitCost(" + one + ", " + other + ")", () -> x.splitCost(one, other),
                () -> y.splitCost(one, other));
        compare("share(" + one + ", " + other + ")", () -> x.share(one, other),
                () -> y.share(one, other));
    }

    private void askFile() {
        int file = file();
        int place = near(0, 119);
        boolean isMark = coin();
        compare("size(" + file + ")", () -> x.size(file), () -> y.size(file));
        compare("at(" + file + ", " + place + ", " + isMark + ")", () -> x.at(file, place, isMark),
                () -> y.at(file, place, isMark));
        compare("pages(" + file + ")", () -> x.pages(file), () -> y.pages(file));
        compare("order(" + file + ")", () -> x.order(file), () -> y.order(file));
        compare("distinct(" + file + ")", () -> x.distinct(file), () -> y.distinct(file));
        compare("inversions(" + file + ")", () -> x.inversions(file), () -> y.inversions(file));
    }

    private void askCounts() {
        int run = near(0, Math.max(0, y.runs() - 1));
        int merge = near(0, Math.max(0, y.merges() - 1));
        int what = near(0, 1);
        compare("files()", () -> x.files(), () -> y.files());
        compare("read()", () -> x.read(), () -> y.read());
        compare("written()", () -> x.written(), () -> y.written());
        compare("spilt()", () -> x.spilt(), () -> y.spilt());
        compare("runs()", () -> x.runs(), () -> y.runs());
        compare("runSize(" + run + ")", () -> x.runSize(run), () -> y.runSize(run));
        compare("merges()", () -> x.merges(), () -> y.merges());
        compare("merge(" + merge + ", " + what + ")", () -> x.merge(merge, what),
                () -> y.merge(merge, what));
    }
}
