/** Promises 22 to 26: a tournament. */
public final class TournamentTest {
    public static void main(String[] args) {
        twoFiles();
        fiveFiles();
        overLeaves();
        sameKeys();
        leastPowers();
        endedByChanges();
        staysOtherwise();
        beginExceptions();
        otherExceptions();
        mergesAll();
        Check.end("TournamentTest");
    }

    private static void twoFiles() {
        MoraineSort x = new MoraineSort();
        Check.fileOf(x, 1, 4);
        Check.fileOf(x, 2, 3);
        Check.due("22 K", 2, () -> x.begin(0, 2));
        Check.due("26 one match", 1, () -> x.matches());
        Check.due("24 winner", 0, () -> x.winner());
        Check.due("25 loser", 1, () -> x.loser(1));
        Check.due("23 next", 1, () -> x.next());
        Check.due("24 winner then", 1, () -> x.winner());
        Check.due("25 loser then", 0, () -> x.loser(1));
        Check.due("23 next", 2, () -> x.next());
        Check.due("23 next", 3, () -> x.next());
        Check.due("24 one is over", 0, () -> x.winner());
        Check.due("23 next", 4, () -> x.next());
        Check.due("26 matches", 5, () -> x.matches());
        Check.due("24 all over: the smaller number", 0, () -> x.winner());
        String before = Check.stateOf(x);
        Check.due("23 all over", 1000, () -> x.next());
        Check.due("23 again", 1000, () -> x.next());
        Check.due("23 nothing is done", before, () -> Check.stateOf(x));
        Check.due("14 nothing is read", 0, () -> x.read());
        Check.due("15 nothing is written", 0, () -> x.written());
        Check.due("22 again", 2, () -> x.begin(0, 2));
        Check.due("26 from one on", 1, () -> x.matches());
        Check.due("23 from the first on", 1, () -> x.next());
    }

    private static void fiveFiles() {
        MoraineSort x = new MoraineSort();
        Check.fileOf(x, 9);
        Check.fileOf(x, 5, 6);
        Check.fileOf(x, 4);
        Check.fileOf(x, 7);
        Check.fileOf(x, 3, 8);
        Check.fileOf(x, 6);
        Check.due("22 K", 8, () -> x.begin(1, 5));
        // leaves 0 5, 1 4, 2 7, 3 3, 4 6, and 5 6 7 over
        Check.due("26 seven matches", 7, () -> x.matches());
        Check.due("24 winner", 3, () -> x.winner());
        int[] losers = {4, 1, 6, 0, 2, 5, 7};
        for (int node = 1; node < 8; node++) {
            int at = node;
            Check.due("25 loser at first", losers[node - 1], () -> x.loser(at));
        }
        Check.due("23 next", 3, () -> x.next());
        // the leaf 3 with 8 climbs from node 11: loses at 5 to 2, which loses at 2 to 1
        Check.due("24 winner then", 1, () -> x.winner());
        int[] then = {4, 2, 6, 0, 3, 5, 7};
        for (int node = 1; node < 8; node++) {
            int at = node;
            Check.due("25 loser then", then[node - 1], () -> x.loser(at));
        }
        Check.due("26 three more", 10, () -> x.matches());
        Check.due("23 next", 4, () -> x.next());
        // the leaf 1 is over, loses at 4 to 0, which wins to the top
        Check.due("25 one that is over", 1, () -> x.loser(4));
        Check.due("24 winner", 0, () -> x.winner());
    }

    private static void overLeaves() {
        MoraineSort x = new MoraineSort();
        x.addFile();
        x.addFile();
        x.addFile();
        Check.due("22 K", 4, () -> x.begin(0, 3));
        Check.due("24 winner", 0, () -> x.winner());
        Check.due("25 losers", "2 1 3",
                () -> x.loser(1) + " " + x.loser(2) + " " + x.loser(3));
        Check.due("23 over", 1000, () -> x.next());
        Check.due("26 no match more", 3, () -> x.matches());
        Check.fileOf(x, 999);
        x.begin(2, 2);
        Check.due("24 the one that is not over", 1, () -> x.winner());
        Check.due("23 next", 999, () -> x.next());
        Check.due("24 over, the smaller number", 0, () -> x.winner());
        Check.due("23 over", 1000, () -> x.next());
    }

    private static void sameKeys() {
        MoraineSort x = new MoraineSort();
        Check.fileOf(x, 5, 5);
        Check.fileOf(x, 5, 5);
        x.begin(0, 2);
        int[] winners = {0, 0, 1, 1, 0};
        for (int i = 0; i < 4; i++) {
            int at = i;
            Check.due("24 of the same the smaller number", winners[at], () -> x.winner());
            x.next();
        }
        Check.due("24 at the end", 0, () -> x.winner());
    }

    private static void leastPowers() {
        MoraineSort x = new MoraineSort();
        for (int file = 0; file < 8; file++) {
            Check.fileOf(x, file);
        }
        int[] due = {2, 4, 4, 8, 8, 8, 8};
        for (int count = 2; count <= 8; count++) {
            int many = count;
            Check.due("22 K", due[count - 2], () -> x.begin(0, many));
            Check.due("26 K - 1", due[count - 2] - 1, () -> x.matches());
            Check.noFile("25 node K", () -> x.loser(due[many - 2]));
        }
    }

    private static void endedByChanges() {
        for (int way = 0; way < 4; way++) {
            MoraineSort x = new MoraineSort();
            for (int file = 0; file < 4; file++) {
                Check.fileOf(x, file);
            }
            x.begin(1, 3);
            if (way == 0) {
                x.put(1, 999, 0);
            } else if (way == 1) {
                x.putRow(3, 999, 0, 999, 1);
            } else if (way == 2) {
                x.drop();
            } else {
                x.drop();
                Check.fileOf(x, 3);
            }
            Check.noState("23 ended", () -> x.next());
            Check.noState("24 ended", () -> x.winner());
            Check.noState("25 ended", () -> x.loser(1));
            Check.noState("25 ended, ahead of the node", () -> x.loser(0));
            Check.due("26 ended", 0, () -> x.matches());
        }
    }

    private static void staysOtherwise() {
        MoraineSort x = new MoraineSort();
        for (int file = 0; file < 5; file++) {
            Check.fileOf(x, file, 10);
        }
        x.begin(1, 3);
        String before = x.winner() + " " + x.loser(1) + " " + x.matches();
        x.put(0, 5, 5);
        x.putRow(4, 0, 1, 9, 3);
        x.sort(1, true, true, false);
        x.join(1, 2, 0);
        x.split(1, 2);
        x.group(3, 0);
        x.setMemory(2, 3);
        Check.noArgument("a put that throws", () -> x.put(1, 1000, 0));
        Check.noState("a row that throws", () -> x.putRow(1, 0, 0, 1, 119));
        for (int i = 0; i < 5; i++) {
            x.drop();
        }
        Check.due("26 stays", before, () -> x.winner() + " " + x.loser(1) + " " + x.matches());
        Check.due("23 stays", 1, () -> x.next());
        x.drop();
        Check.due("26 ends with its own", 0, () -> x.matches());
    }

    private static void beginExceptions() {
        MoraineSort x = new MoraineSort();
        Check.noFile("22 no file", () -> x.begin(0, 2));
        for (int file = 0; file < 9; file++) {
            Check.fileOf(x, file, 20);
        }
        Check.fileOf(x, 2, 1);
        x.begin(0, 3);
        x.next();
        String before = Check.stateOf(x);
        Check.noFile("22 first", () -> x.begin(-1, 2));
        Check.noFile("22 first", () -> x.begin(10, 2));
        Check.noFile("22 first ahead of count", () -> x.begin(10, 0));
        Check.noFile("22 first ahead of count", () -> x.begin(-1, -1));
        Check.noFile("22 one of them", () -> x.begin(9, 2));
        Check.noFile("22 one of them ahead of count", () -> x.begin(2, 9));
        Check.noFile("22 far", () -> x.begin(5, Integer.MAX_VALUE));
        Check.noFile("22 far", () -> x.begin(Integer.MAX_VALUE, 2));
        Check.noArgument("22 count is 1", () -> x.begin(0, 1));
        Check.noArgument("22 count is 0", () -> x.begin(0, 0));
        Check.noArgument("22 count is below 0", () -> x.begin(0, Integer.MIN_VALUE));
        Check.noArgument("22 count is 9", () -> x.begin(0, 9));
        Check.noArgument("22 count ahead of up", () -> x.begin(9, 1));
        Check.noState("22 not up", () -> x.begin(8, 2));
        Check.noState("22 not up", () -> x.begin(2, 8));
        Check.due("22 nothing changed", before, () -> Check.stateOf(x));
        Check.due("22 eight", 8, () -> x.begin(1, 8));
    }

    private static void otherExceptions() {
        MoraineSort x = new MoraineSort();
        Check.noState("23 none", () -> x.next());
        Check.noState("24 none", () -> x.winner());
        Check.noState("25 none", () -> x.loser(1));
        Check.due("26 none", 0, () -> x.matches());
        Check.fileOf(x, 1);
        Check.fileOf(x, 2);
        Check.fileOf(x, 3);
        x.begin(0, 3);
        for (int node : new int[] {0, 4, -1, Integer.MIN_VALUE, Integer.MAX_VALUE}) {
            Check.noFile("25 no such node", () -> x.loser(node));
        }
        Check.due("25 node 3", 3, () -> x.loser(3));
    }

    private static void mergesAll() {
        MoraineSort x = new MoraineSort();
        for (int file = 0; file < 6; file++) {
            x.addFile();
            x.putRow(file, file * 7, 6 + file, 999, 20);
        }
        x.begin(0, 6);
        int before = -1;
        for (int i = 0; i < 120; i++) {
            int key = x.next();
            int least = before;
            Check.due("23 never less", true, () -> key >= least);
            before = key;
        }
        Check.due("23 all given", 1000, () -> x.next());
        Check.due("26 matches", 7 + 120 * 3, () -> x.matches());
    }
}
