import java.util.List;

/** The boundary cases of the promises 10 to 17: what nodes hold. */
final class HoldingBoundaries extends Sentences {
    static void all() {
        partitions();
        rowsIn();
        rows();
        keyAt();
        valueAt();
        isBroad();
        digest();
        digestInPlace();
    }

    /** Node 1 holds 1:10 4:40|2:20||3:30, and node 2 that twice. */
    private static Taskgraphic withAnEmptyPartition() {
        Taskgraphic x = new Taskgraphic();
        source(x, 4, 1, 10, 2, 20, 9, 90, 3, 30, 4, 40);
        x.filter(0, 10, 40);
        x.union(1, 1);
        return x;
    }

    /** Node 3 has as many rows as a node can have: 5:0 in partitions of 144, 144 and 12. */
    private static Taskgraphic with300Rows() {
        Taskgraphic x = new Taskgraphic();
        sourceOfKeys(x, 1, 5, 5, 5, 5, 5, 5, 5, 5, 5, 5, 5, 5);
        x.union(x.union(x.join(0, 0, 1), 1), 0);
        return x;
    }

    // ---- 10

    private static void partitions() {
        holds(10, "Returns 1 to 8.", () -> {
            Taskgraphic x = new Taskgraphic();
            sourceOf(x, 1, 1);
            x.source(4);
            due("of a source of 1", x.partitions(0), 1);
            due("of a source of 4", x.partitions(1), 4);
            due("of two of 4", x.partitions(x.union(1, 1)), 8);
            int narrow = x.join(0, 0, 4);
            int wide = x.join(2, 0, 4);
            due("of a broad join of a first input of 1", x.partitions(narrow), 1);
            due("of a broad join of a first input of 8", x.partitions(wide), 8);
            due("of a union of the broad one", x.partitions(x.union(narrow, 1)), 5);
            x.setLimit(0);
            due("of one that is not broad, and was told 4", x.partitions(narrow), 4);
            due("of one that is not broad, and was told 4", x.partitions(wide), 4);
            due("of a union of the one that is not broad", x.partitions(5), 8);
        });
        holds(10, NO_NODE, () -> {
            Taskgraphic x = new Taskgraphic();
            noSuchNode(0, x::partitions);
            x.source(1);
            noSuchNode(1, x::partitions);
            noSuchNode(14, with14Nodes()::partitions);
        });
        holds(10, NOTHING, () -> changeNothing(Testing::busy, List.of(x -> x.partitions(-1), x -> x.partitions(8))));
    }

    // ---- 11

    private static void rowsIn() {
        holds(11, "A node has partitions, numbered from 0;", () -> {
            Taskgraphic x = withAnEmptyPartition();
            int[] due = {2, 1, 0, 1, 2, 1, 0, 1};
            for (int part = 0; part < 8; part++) {
                due("rowsIn(2, " + part + ")", x.rowsIn(2, part), due[part]);
            }
        });
        holds(11, "Returns how many rows a partition has.", () -> {
            Taskgraphic x = with300Rows();
            due("144 rows", x.rowsIn(3, 0), 144);
            due("144 rows", x.rowsIn(3, 1), 144);
            due("12 rows", x.rowsIn(3, 2), 12);
            x.source(1);
            due("no rows", x.rowsIn(4, 0), 0);
            due("a group without rows", x.rowsIn(x.group(4, 0, 4), 3), 0);
            due("a join without rows", x.rowsIn(x.join(4, 0, 4), 3), 0);
        });
        holds(11, "Throws IndexOutOfBoundsException if there is no such node or partition", () -> {
            Taskgraphic x = withAnEmptyPartition();
            noSuch(part -> x.rowsIn(0, part), -1, 4, 8, MIN, MAX);
            noSuch(part -> x.rowsIn(2, part), -1, 8, MIN, MAX);
            noSuchNode(3, node -> x.rowsIn(node, 0));
            noSuchNode(3, node -> x.rowsIn(node, -1));
            int join = x.join(0, 0, 2);
            noSuch(part -> x.rowsIn(join, part), -1, 2);
            x.setLimit(5);
            due("the last one of the broad join", x.rowsIn(join, 3), 1);
            noSuch(part -> x.rowsIn(join, part), -1, 4);
        });
        holds(11, NOTHING, () -> changeNothing(Testing::busy,
            List.of(x -> x.rowsIn(8, 0), x -> x.rowsIn(-1, 0), x -> x.rowsIn(0, 2), x -> x.rowsIn(0, -1))));
    }

    // ---- 12

    private static void rows() {
        holds(12, "Returns how many rows a node has.", () -> {
            Taskgraphic x = with300Rows();
            due("300 rows", x.rows(3), 300);
            due("12 rows", x.rows(0), 12);
            due("no row left", x.rows(x.filter(3, 1, 0)), 0);
            due("a group of these", x.rows(x.group(4, 0, 1)), 0);
            due("a join of these", x.rows(x.join(0, x.filter(0, 1, 0), 1)), 0);
            due("a source without rows", x.rows(x.source(4)), 0);
        });
        holds(12, NO_NODE, () -> {
            noSuchNode(0, new Taskgraphic()::rows);
            noSuchNode(3, withAnEmptyPartition()::rows);
            noSuchNode(14, with14Nodes()::rows);
        });
        holds(12, NOTHING, () -> changeNothing(Testing::busy, List.of(x -> x.rows(-1), x -> x.rows(8))));
    }

    // ---- 13, 14

    private static void keyAt() {
        holds(13, "place: 0 for the first row of the partition", () -> {
            Taskgraphic x = withAnEmptyPartition();
            due("the first row of the first partition", x.keyAt(1, 0, 0), 1);
            due("the last row of the first partition", x.keyAt(1, 0, 1), 4);
            due("the first row of the second partition", x.keyAt(1, 1, 0), 2);
            due("the first row behind an empty partition", x.keyAt(1, 3, 0), 3);
            due("the first row of the last partition", x.keyAt(2, 7, 0), 3);
            due("the 144th row", with300Rows().keyAt(3, 1, 143), 5);
        });
        holds(13, "Throws IndexOutOfBoundsException if there is no such node, partition or row", () -> {
            Taskgraphic x = withAnEmptyPartition();
            noSuch(place -> x.keyAt(1, 0, place), -1, 2, 4, MIN, MAX);
            noSuch(place -> x.keyAt(1, 1, place), -1, 1, MIN, MAX);
            noSuch(place -> x.keyAt(1, 2, place), -1, 0, 1, MAX);
            noSuch(place -> x.keyAt(1, 3, place), -1, 1);
            noSuch(part -> x.keyAt(1, part, 0), -1, 4, 8, MIN, MAX);
            noSuch(part -> x.keyAt(2, part, 0), -1, 8);
            noSuchNode(3, node -> x.keyAt(node, 0, 0));
            Taskgraphic most = with300Rows();
            noSuch(place -> most.keyAt(3, 1, place), -1, 144, 300);
        });
        holds(13, "each has rows in an order, and a row is a key and a value.", () -> {
            Taskgraphic x = new Taskgraphic();
            source(x, 1, 2, MIN, -1, MAX, 2, MIN, MIN, 0, 2, MAX);
            due("the same key, and the same row, twice", held(x, 0),
                "2:" + MIN + " -1:" + MAX + " 2:" + MIN + " " + MIN + ":0 2:" + MAX);
        });
        holds(13, "IndexOutOfBoundsException: there is no such node, partition, place, worker or attempt.", () -> {
            Taskgraphic x = new Taskgraphic();
            x.source(1);
            throwing("no such place", BOUNDS, () -> x.keyAt(0, 0, 0));
            throwing("no such partition", BOUNDS, () -> x.keyAt(0, 1, 0));
            throwing("no such node", BOUNDS, () -> x.keyAt(1, 0, 0));
            throwing("no such worker", BOUNDS, () -> x.setSlowness(4, 1));
            throwing("no such attempt", BOUNDS, () -> x.nodeOf(0));
        });
        holds(13, NOTHING, () -> changeNothing(Testing::busy, List.of(x -> x.keyAt(8, 0, 0), x -> x.keyAt(-1, 0, 0),
            x -> x.keyAt(0, 2, 0), x -> x.keyAt(0, -1, 0), x -> x.keyAt(0, 0, 3), x -> x.keyAt(0, 0, -1))));
    }

    private static void valueAt() {
        holds(14, "place: 0 for the first row of the partition", () -> {
            Taskgraphic x = withAnEmptyPartition();
            due("the first row of the first partition", x.valueAt(1, 0, 0), 10);
            due("the last row of the first partition", x.valueAt(1, 0, 1), 40);
            due("the first row of the second partition", x.valueAt(1, 1, 0), 20);
            due("the first row behind an empty partition", x.valueAt(1, 3, 0), 30);
            due("the first row of the last partition", x.valueAt(2, 7, 0), 30);
            due("the 144th row", with300Rows().valueAt(3, 1, 143), 0);
        });
        holds(14, "Throws IndexOutOfBoundsException if there is no such node, partition or row", () -> {
            Taskgraphic x = withAnEmptyPartition();
            noSuch(place -> x.valueAt(1, 0, place), -1, 2, 4, MIN, MAX);
            noSuch(place -> x.valueAt(1, 1, place), -1, 1, MIN, MAX);
            noSuch(place -> x.valueAt(1, 2, place), -1, 0, 1, MAX);
            noSuch(place -> x.valueAt(1, 3, place), -1, 1);
            noSuch(part -> x.valueAt(1, part, 0), -1, 4, 8, MIN, MAX);
            noSuch(part -> x.valueAt(2, part, 0), -1, 8);
            noSuchNode(3, node -> x.valueAt(node, 0, 0));
            Taskgraphic most = with300Rows();
            noSuch(place -> most.valueAt(3, 1, place), -1, 144, 300);
        });
        holds(14, NOTHING, () -> changeNothing(Testing::busy, List.of(x -> x.valueAt(8, 0, 0), x -> x.valueAt(-1, 0, 0),
            x -> x.valueAt(0, 2, 0), x -> x.valueAt(0, -1, 0), x -> x.valueAt(0, 0, 3), x -> x.valueAt(0, 0, -1))));
    }

    // ---- 15

    private static void isBroad() {
        holds(15, "It is broad, if the second input has no more rows than the limit", () -> {
            Taskgraphic x = new Taskgraphic();
            sourceOf(x, 2, 12);
            x.source(1);
            int join = x.join(0, 1, 1);
            int twice = x.join(1, x.union(0, 0), 1);
            due("no rows, a limit of 4", x.isBroad(join), true);
            due("24 rows, a limit of 4", x.isBroad(twice), false);
            x.setLimit(0);
            due("no rows, a limit of 0", x.isBroad(join), true);
            x.put(1, 0, 0);
            due("1 row, a limit of 0", x.isBroad(join), false);
            x.setLimit(1);
            due("1 row, a limit of 1", x.isBroad(join), true);
            x.put(1, 1, 1);
            due("2 rows, a limit of 1", x.isBroad(join), false);
            x.setLimit(23);
            due("24 rows, a limit of 23", x.isBroad(twice), false);
            x.setLimit(24);
            due("24 rows, a limit of 24", x.isBroad(twice), true);
            x.setLimit(1000);
            due("24 rows, a limit of 1000", x.isBroad(twice), true);
        });
        holds(15, "which is 4 at first", () -> {
            Taskgraphic x = new Taskgraphic();
            sourceOf(x, 3, 4);
            x.join(0, 0, 1);
            due("4 rows", x.isBroad(1), true);
            x.put(0, 5, 5);
            due("5 rows", x.isBroad(1), false);
        });
        holds(15, NO_NODE, () -> {
            noSuchNode(0, new Taskgraphic()::isBroad);
            noSuchNode(8, busy()::isBroad);
            noSuchNode(14, with14Nodes()::isBroad);
        });
        holds(15, "Throws IllegalStateException if it is no join", () -> {
            Taskgraphic x = busy();
            for (int node : new int[] {0, 1, 2, 3, 4, 5, 7}) {
                throwing("isBroad(" + node + ")", STATE, () -> x.isBroad(node));
            }
            due("isBroad(6)", x.isBroad(6), false);
        });
        holds(15, "IllegalStateException: as the methods tell.", () -> {
            Taskgraphic x = withAFullSource();
            throwing("isBroad of a source", STATE, () -> x.isBroad(0));
            throwing("a 13th row", STATE, () -> x.put(0, 0, 0));
        });
        holds(15, SEVERAL, () -> {
            Taskgraphic x = new Taskgraphic();
            x.source(1);
            noSuchNode(1, x::isBroad);
        });
        holds(15, NOTHING, () ->
            changeNothing(Testing::busy, List.of(x -> x.isBroad(-1), x -> x.isBroad(8), x -> x.isBroad(0))));
    }

    // ---- 16, 17

    private static int digestOf(boolean inPlace, int... rows) {
        Taskgraphic x = new Taskgraphic();
        source(x, 2, rows);
        return inPlace ? x.digestInPlace(0) : x.digest(0);
    }

    private static void digests(boolean inPlace) {
        due("of no row", digestOf(inPlace), 0);
        due("a root of 0", digestOf(inPlace, 0, 0), 0);
        due("a root below 0", digestOf(inPlace, -1, 0), 961);
        due("a root of 65536", digestOf(inPlace, 0, 65536), 0);
        due("a root of 46341", digestOf(inPlace, 0, 46341), -2147479015);
        due("a product over the greatest", digestOf(inPlace, 69273667, 2147483620), 1);
        due("the least key", digestOf(inPlace, MIN, 1), 1);
        due("a sum over the greatest", digestOf(inPlace, 0, 46340, 0, 46340), -176096);
        due("twelve rows", digestOf(inPlace, 0, 1, 0, 1, 0, 1, 0, 1, 0, 1, 0, 1, 0, 1, 0, 1, 0, 1, 0, 1, 0, 1, 0, 2), 15);
    }

    private static void digest() {
        holds(16, "Returns the digest of a node: the sum, over all rows,"
            + " of the square of 31 times the key plus the value.", () -> {
                digests(false);
                Taskgraphic x = with300Rows();
                due("of 300 rows", x.digest(3), 300 * 155 * 155);
                due("of no row left", x.digest(x.filter(3, 1, 0)), 0);
                due("of a group of no row", x.digest(x.group(4, 3, 4)), 0);
            });
        holds(16, NO_NODE, () -> {
            noSuchNode(0, new Taskgraphic()::digest);
            noSuchNode(14, with14Nodes()::digest);
        });
        holds(16, NOTHING, () -> changeNothing(Testing::busy, List.of(x -> x.digest(-1), x -> x.digest(8))));
    }

    private static void digestInPlace() {
        holds(17, "Returns the same, found in one place: rows in one row without any partitions.", () -> {
            digests(true);
            Taskgraphic x = with300Rows();
            due("of 300 rows", x.digestInPlace(3), 300 * 155 * 155);
            due("of no row left", x.digestInPlace(x.filter(3, 1, 0)), 0);
            due("of a group of no row", x.digestInPlace(x.group(4, 3, 4)), 0);
        });
        holds(17, "Returns the same", () -> {
            Taskgraphic x = new Taskgraphic();
            sourceOf(x, 1, 1);
            x.map(0, 0, 3);
            due("of a row", x.digestInPlace(1), 9);
            x.put(0, 1, 0);
            due("behind a put", x.digestInPlace(1), 9 + 34 * 34);
            due("digest(1)", x.digest(1), 9 + 34 * 34);
        });
        holds(17, "What a node holds does not depend on any of that.", () -> {
            Taskgraphic x = busy();
            for (int limit : new int[] {0, 3, 4, 1000}) {
                x.setLimit(limit);
                for (int node = 0; node < 8; node++) {
                    due("digestInPlace(" + node + ") with a limit of " + limit, x.digestInPlace(node), x.digest(node));
                }
                // The join holds 1:11, 1:41 and 5:52.
                due("the join", x.digestInPlace(6), 42 * 42 + 72 * 72 + 207 * 207);
            }
        });
        holds(17, NO_NODE, () -> {
            noSuchNode(0, new Taskgraphic()::digestInPlace);
            noSuchNode(14, with14Nodes()::digestInPlace);
        });
        holds(17, NOTHING, () ->
            changeNothing(Testing::busy, List.of(x -> x.digestInPlace(-1), x -> x.digestInPlace(8))));
    }
}
