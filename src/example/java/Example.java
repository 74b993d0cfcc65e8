/** Sorts a file, and merges, joins and groups what comes of it. */
public final class Example {
    public static void main(String[] args) {
        MoraineSort sorter = new MoraineSort();
        sorter.setMemory(3, 4);                 // pages of 3 records, and room for 4 pages
        int file = sorter.addFile();
        sorter.putRow(file, 7, 5, 23, 60);      // 60 records with the keys 7, 12, 17, 22, 4, ..
        sorter.put(file, -1, 9999);             // and one more with the key -1

        // What it would cost by loading and levels, and by replacing and the least, as it is.
        System.out.println("it costs " + sorter.sortCost(file, false, false, 4) + " pages, or "
                + sorter.sortCost(file, true, true, 4));
        System.out.println("one merge needs a memory of " + sorter.memoryFor(file, true, 1));

        int sorted = sorter.sort(file, true, true, false);
        System.out.println("sorted by " + sorter.runs() + " runs and " + sorter.merges()
                + " merges: " + (sorter.read() + sorter.written()) + " pages");
        System.out.println("the first run had " + sorter.runSize(0) + " records, the last merge was of "
                + sorter.merge(sorter.merges() - 1, 0) + " runs");
        System.out.println("the first key is " + sorter.at(sorted, 0, false) + ", its mark "
                + sorter.at(sorted, 0, true));

        // How many records each key has; then the sorted file and these in a tournament.
        int counts = sorter.group(sorted, 0);
        sorter.begin(sorted, 2);
        System.out.println("the tournament gives " + sorter.next() + ", " + sorter.next() + ", "
                + sorter.next() + " by " + sorter.matches() + " matches; leaf " + sorter.winner()
                + " wins now");

        int joined = sorter.join(sorted, counts, 0);
        System.out.println("joined: " + sorter.size(joined) + " records, the last mark is "
                + sorter.at(joined, sorter.size(joined) - 1, true));
        System.out.println("by splitting it would cost " + sorter.splitCost(sorted, counts)
                + " pages");

        try {
            sorter.group(file, 0);
        } catch (IllegalStateException e) {
            System.out.println("a file in no order can't be grouped");
        }
    }
}
