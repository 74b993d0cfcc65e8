/** Promises 22 to 26 and paragraph 3 of the terms at their bounds. */
public final class TournamentBoundsTest {
    public static void main(String[] args) {
        promise22LeastPowerOfTwo();
        promise22FirstAndLastFiles();
        promise22InPlaceOfTheOneThatWas();
        promise22InPlaceOfALargerOne();
        promise22UpWithSameKeys();
        promise22WithoutRecords();
        promise22FullFiles();
        promise23LeastAndGreatestKey();
        promise23AllOver();
        promise23NothingIsDoneIfAllAreOver();
        promise24SmallerKeyWins();
        promise24SameKeyTheSmallerNumberWins();
        promise24OverLosesAlsoAgainstGreaterNumbers();
        promise24AllOver();
        promise25FirstAndLastNode();
        promise25LeavesWithoutFiles();
        promise25ClimbsFromEachLeaf();
        promise26WithoutOne();
        promise26AlsoOfLeavesThatAreOver();
        promise26OneForEachNodeOnTheWay();
        endsIfTheFirstOrLastIsChanged();
        staysIfTheOnesBesideAreChanged();
        endsIfTheLastIsTakenAway();
        doesNotComeBack();
        staysWithSetMemoryAndNewFiles();
        nothingIsReadOrWritten();
        Check.end("TournamentBoundsTest");
    }

    /** So many files, each with its own number and 500 more as keys. */
    private static MoraineSort withFiles(int count) {
        MoraineSort x = new MoraineSort();
        for (int file = 0; file < count; file++) {
            Check.fileOf(x, file, file + 500);
        }
        return x;
    }

    private static String losersOf(MoraineSort x, int nodes) {
        StringBuilder all = new StringBuilder();
        for (int node = 1; node <= nodes; node++) {
            all.append(node == 1 ? "" : " ").append(x.loser(node));
        }
        return all.toString();
    }

    private static String nextsOf(MoraineSort x, int count) {
        StringBuilder all = new StringBuilder();
        for (int i = 0; i < count; i++) {
            all.append(i == 0 ? "" : " ").append(x.next());
        }
        return all.toString();
    }

    // ---- promise 22

    private static void promise22LeastPowerOfTwo() {
        int[] powers = {2, 4, 4, 8, 8, 8, 8};
        for (int count = 2; count <= 8; count++) {
            int some = count;
            MoraineSort x = withFiles(12);
            Check.due("22 K of " + count, powers[count - 2], () -> x.begin(3, some));
            Check.due("24 the winner", 0, () -> x.winner());
            Check.due("23 its key", 3, () -> x.next());
        }
    }

    private static void promise22FirstAndLastFiles() {
        MoraineSort x = withFiles(12);
        Check.due("22 from the first file", 8, () -> x.begin(0, 8));
        Check.due("23 of the first file", 0, () -> x.next());
        Check.due("22 to the last file", 8, () -> x.begin(4, 8));
        Check.due("23 of the fifth file", 4, () -> x.next());
        Check.due("22 the last two", 2, () -> x.begin(10, 2));
        Check.due("23 all of them", "10 11 510 511 1000", () -> nextsOf(x, 5));
    }

    private static void promise22InPlaceOfTheOneThatWas() {
        MoraineSort x = withFiles(8);
        x.begin(0, 8);
        nextsOf(x, 3);
        Check.due("22 another one", 2, () -> x.begin(6, 2));
        Check.due("26 its matches", 1, () -> x.matches());
        Check.due("25 its loser", "1", () -> losersOf(x, 1));
        Check.noFile("25 its nodes alone", () -> x.loser(2));
        x.put(0, 999, 0);
        Check.due("23 the files of the one before are not its own", 6, () -> x.next());
        x.begin(1, 7);
        Check.due("22 the larger one again, from the first records", "1 2 3 4 5 6 7 501",
                () -> nextsOf(x, 8));
    }

    private static void promise22InPlaceOfALargerOne() {
        MoraineSort x = new MoraineSort();
        for (int file = 0; file < 8; file++) {
            Check.fileOf(x, 20 - file, 30);
        }
        x.begin(0, 8);
        Check.due("25 the greater number wins", "3 1 5 0 2 4 6", () -> losersOf(x, 7));
        x.begin(0, 4);
        Check.due("25 all leaves are there again", "1 0 2", () -> losersOf(x, 3));
        x.begin(0, 2);
        Check.due("25 and again", "0", () -> losersOf(x, 1));
    }

    private static void promise22UpWithSameKeys() {
        MoraineSort x = new MoraineSort();
        Check.fileOf(x, 5, 5, 5);
        Check.fileOf(x, 5);
        Check.due("22 up with the same keys", 2, () -> x.begin(0, 2));
    }

    private static void promise22WithoutRecords() {
        for (int count = 2; count <= 8; count++) {
            int some = count;
            MoraineSort x = Given.empties(8);
            Check.due("22 up without records", count <= 2 ? 2 : count <= 4 ? 4 : 8,
                    () -> x.begin(0, some));
            Check.due("24 the smallest number wins", 0, () -> x.winner());
            Check.due("23 all over at once", 1000, () -> x.next());
        }
    }

    private static void promise22FullFiles() {
        MoraineSort x = Given.row(4, 4, 0, 1, 120);
        x.addFile();
        x.putRow(1, 0, 1, 999, 120);
        x.begin(0, 2);
        for (int i = 0; i < 240; i++) {
            int want = i / 2;
            Check.due("23 of full files", want, () -> x.next());
        }
        Check.due("23 no 121st", 1000, () -> x.next());
        Check.due("26 one at first, and one for each", 241, () -> x.matches());
    }

    // ---- promise 23

    private static void promise23LeastAndGreatestKey() {
        MoraineSort x = new MoraineSort();
        Check.fileOf(x, -999, 0, 999);
        Check.fileOf(x, -998, -1, 998);
        x.begin(0, 2);
        Check.due("23 keys", "-999 -998 -1 0 998 999 1000", () -> nextsOf(x, 7));
    }

    private static void promise23AllOver() {
        MoraineSort x = withFiles(3);
        x.begin(0, 3);
        Check.due("23 all over", "0 1 2 500 501 502 1000 1000", () -> nextsOf(x, 8));
    }

    private static void promise23NothingIsDoneIfAllAreOver() {
        Check.Maker over = () -> {
            MoraineSort x = withFiles(3);
            x.begin(0, 3);
            nextsOf(x, 6);
            return x;
        };
        Check.onlyAsks("23 if all are over", 1000, over, x -> x.next());
        Check.onlyAsks("23 if all are over from the first", 1000, () -> {
            MoraineSort x = Given.empties(5);
            x.begin(0, 5);
            return x;
        }, x -> x.next());
    }

    // ---- promise 24

    private static int winnerOf(int[] one, int[] other) {
        MoraineSort x = new MoraineSort();
        Check.fileOf(x, one);
        Check.fileOf(x, other);
        x.begin(0, 2);
        return x.winner();
    }

    private static void promise24SmallerKeyWins() {
        int[] least = {-999};
        int[] next = {-998};
        int[] greatest = {999};
        Check.due("24 one less", 0, () -> winnerOf(least, next));
        Check.due("24 one more", 1, () -> winnerOf(next, least));
        Check.due("24 the sign counts", 1, () -> winnerOf(greatest, least));
    }

    private static void promise24SameKeyTheSmallerNumberWins() {
        MoraineSort x = new MoraineSort();
        for (int file = 0; file < 4; file++) {
            Check.fileOf(x, 7, 7);
        }
        x.begin(0, 4);
        int[] winners = {0, 0, 1, 1, 2, 2, 3, 3, 0};
        for (int winner : winners) {
            Check.due("24 of the same", winner, () -> x.winner());
            x.next();
        }
    }

    private static void promise24OverLosesAlsoAgainstGreaterNumbers() {
        int[] none = {};
        int[] greatest = {999};
        Check.due("24 over against 999", 1, () -> winnerOf(none, greatest));
        Check.due("24 999 against over", 0, () -> winnerOf(greatest, none));
        Check.due("24 both over", 0, () -> winnerOf(none, none));
    }

    private static void promise24AllOver() {
        for (int count = 2; count <= 8; count++) {
            MoraineSort x = withFiles(8);
            x.begin(0, count);
            nextsOf(x, 2 * count);
            Check.due("24 all " + count + " over", 0, () -> x.winner());
        }
        Check.onlyAsks("24 asked", 1, Given::some, x -> x.winner());
    }

    // ---- promise 25

    private static void promise25FirstAndLastNode() {
        MoraineSort x = withFiles(8);
        x.begin(0, 8);
        Check.due("25 each node", "4 2 6 1 3 5 7", () -> losersOf(x, 7));
        Check.noFile("25 node 8", () -> x.loser(8));
        x.begin(0, 4);
        Check.due("25 each node of K 4", "2 1 3", () -> losersOf(x, 3));
        Check.noFile("25 node 4", () -> x.loser(4));
        x.begin(0, 2);
        Check.due("25 the node of K 2", "1", () -> losersOf(x, 1));
        Check.noFile("25 node 2", () -> x.loser(2));
        Check.onlyAsks("25 asked", 0, Given::some, y -> y.loser(1));
    }

    private static void promise25LeavesWithoutFiles() {
        String[] due = {"2 1 3", "4 2 6 1 3 5 7", "4 2 6 1 3 5 7", "4 2 6 1 3 5 7"};
        int[] counts = {3, 5, 6, 7};
        for (int i = 0; i < counts.length; i++) {
            int nodes = i == 0 ? 3 : 7;
            MoraineSort x = withFiles(8);
            x.begin(0, counts[i]);
            Check.due("25 leaves up to K, " + counts[i], due[i], () -> losersOf(x, nodes));
        }
        MoraineSort y = new MoraineSort();
        Check.fileOf(y);
        Check.fileOf(y);
        Check.fileOf(y, 999);
        y.begin(0, 3);
        // at node 3 the leaf 2 wins against 3, at node 2 the leaf 0 against 1, at node 1 leaf 2
        Check.due("25 over against over", "0 1 3", () -> losersOf(y, 3));
        Check.due("24 the one that is not over", 2, () -> y.winner());
    }

    private static void promise25ClimbsFromEachLeaf() {
        MoraineSort x = withFiles(8);
        x.begin(0, 8);
        String[] due = {"4 2 6 0 3 5 7", "4 0 6 1 3 5 7", "4 0 6 1 2 5 7", "0 2 6 1 3 5 7",
            "0 2 6 1 3 4 7", "0 2 4 1 3 5 7", "0 2 4 1 3 5 6", "4 2 6 1 3 5 7"};
        for (int leaf = 0; leaf < 8; leaf++) {
            int some = leaf;
            Check.due("23 of leaf " + leaf, leaf, () -> x.next());
            Check.due("25 then", due[some], () -> losersOf(x, 7));
            Check.due("24 then", (leaf + 1) % 8, () -> x.winner());
        }
    }

    // ---- promise 26

    private static void promise26WithoutOne() {
        Check.onlyAsks("26 there was none", 0, Given::nothing, x -> x.matches());
        Check.onlyAsks("26 there is none any more", 0, Given::ended, x -> x.matches());
        Check.onlyAsks("26 asked", 2, Given::some, x -> x.matches());
    }

    private static void promise26AlsoOfLeavesThatAreOver() {
        MoraineSort x = Given.empties(8);
        for (int count = 2; count <= 8; count++) {
            x.begin(0, count);
            int due = count == 2 ? 1 : count <= 4 ? 3 : 7;
            Check.due("26 K - 1 of " + count, due, () -> x.matches());
        }
        MoraineSort y = withFiles(5);
        y.begin(0, 5);
        nextsOf(y, 10);
        Check.due("26 three for each, also of the leaf 4 beside leaves without files", 37,
                () -> y.matches());
    }

    private static void promise26OneForEachNodeOnTheWay() {
        int[] ways = {1, 2, 2, 3, 3, 3, 3};
        int[] first = {1, 3, 3, 7, 7, 7, 7};
        for (int count = 2; count <= 8; count++) {
            MoraineSort x = withFiles(8);
            x.begin(0, count);
            x.next();
            Check.due("26 one record of " + count, first[count - 2] + ways[count - 2],
                    () -> x.matches());
        }
    }

    // ---- its end

    private static MoraineSort begun() {
        MoraineSort x = withFiles(6);
        x.begin(1, 4);
        return x;
    }

    private static void endsIfTheFirstOrLastIsChanged() {
        for (int file = 1; file <= 4; file++) {
            MoraineSort x = begun();
            x.put(file, 999, 0);
            Check.noState("23 a put to file " + file + " ends it", () -> x.next());
            MoraineSort y = begun();
            y.putRow(file, 998, 0, 999, 1);
            Check.noState("23 a row put to file " + file + " ends it", () -> y.next());
        }
    }

    private static void staysIfTheOnesBesideAreChanged() {
        for (int file : new int[] {0, 5}) {
            MoraineSort x = begun();
            x.put(file, -999, 0);
            x.putRow(file, 3, 0, 999, 1);
            Check.due("23 file " + file + " is not its own", "1 2 3 4 501", () -> nextsOf(x, 5));
        }
    }

    private static void endsIfTheLastIsTakenAway() {
        MoraineSort x = begun();
        x.drop();
        Check.due("26 the file behind the last", 3, () -> x.matches());
        x.drop();
        Check.due("26 the last", 0, () -> x.matches());
        Check.noState("24 the last", () -> x.winner());
    }

    private static void doesNotComeBack() {
        MoraineSort x = begun();
        x.drop();
        x.drop();
        Check.fileOf(x, 4, 504);
        Check.noState("24 with a file like the one taken away", () -> x.winner());
        Check.noState("22 nor by one that is refused", () -> x.begin(Check.fileOf(x, 2, 1) - 1, 2));
        Check.noState("24 still none", () -> x.winner());
        Check.due("22 but by a new one", 4, () -> x.begin(1, 4));
    }

    private static void staysWithSetMemoryAndNewFiles() {
        MoraineSort x = begun();
        x.next();
        x.setMemory(2, 3);
        x.addFile();
        x.sort(1, true, true, false);
        x.join(1, 2, 1);
        x.split(1, 1);
        x.group(4, 0);
        x.join(1, 1, 0);
        for (int file = 11; file > 4; file--) {
            x.drop();
        }
        Check.due("23 its files are as they were", "2 3 4 501 502 503 504 1000",
                () -> nextsOf(x, 8));
    }

    private static void nothingIsReadOrWritten() {
        MoraineSort x = withFiles(8);
        x.begin(0, 8);
        nextsOf(x, 17);
        Check.due("14, 15, 16 nothing of it is read or written", "0 0 0", () -> Check.countsOf(x));
    }
}
