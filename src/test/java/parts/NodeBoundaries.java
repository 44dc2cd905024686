import java.util.List;

/** The boundary cases of the promises 1 to 9: nodes. */
final class NodeBoundaries extends Sentences {
    private static final String INTS = "All numbers are ints, and are reckoned as ints are in Java.";
    private static final String SHARE =
        "The share of a key among p partitions is the key modulo p (0 or more, also for a key below 0).";
    private static final String FULL = "Throws IllegalStateException if there are 14 nodes";

    static void all() {
        aNewObject();
        source();
        put();
        map();
        filter();
        union();
        widths();
        bounds();
        group();
        join();
        joinByKeys();
        nodes();
    }

    // ---- 1

    private static void aNewObject() {
        holds(1, "A runner without nodes.", () -> {
            Taskgraphic x = new Taskgraphic();
            due("nodes()", x.nodes(), 0);
            throwing("rows(0)", BOUNDS, () -> x.rows(0));
            throwing("put(0, 0, 0)", BOUNDS, () -> x.put(0, 0, 0));
            throwing("union(0, 0)", BOUNDS, () -> x.union(0, 0));
            throwing("mark(0, true)", BOUNDS, () -> x.mark(0, true));
            throwing("isCached(0)", BOUNDS, () -> x.isCached(0));
            throwing("stages(0)", BOUNDS, () -> x.stages(0));
            throwing("run(0)", BOUNDS, () -> x.run(0));
            due("nodes() of another object", nodesBesideA(x), 0);
        });
        holds(1, "An object is used for at most 512 calls after it has been made", () -> {
            Taskgraphic x = new Taskgraphic();
            x.source(1);
            x.put(0, 1, 5);
            for (int call = 3; call < 512; call++) {
                due("call " + call, call % 2 == 0 ? x.attempts() : x.run(0) - 1, 1);
            }
            due("digest, the 512th call", x.digest(0), 36 * 36);
        });
    }

    private static int nodesBesideA(Taskgraphic x) {
        Taskgraphic other = new Taskgraphic();
        x.source(1);
        return other.nodes();
    }

    // ---- 2

    private static void source() {
        holds(2, "partitions: 1 to 4", () -> {
            Taskgraphic x = new Taskgraphic();
            for (int p = 1; p <= 4; p++) {
                due("source(" + p + ")", x.source(p), p - 1);
                due("its partitions", x.partitions(p - 1), p);
            }
        });
        holds(2, "Throws IllegalArgumentException if partitions is out of range", () -> {
            Taskgraphic x = new Taskgraphic();
            outOfRange(x::source, 0, 5, -1, -4, MIN, MAX);
        });
        holds(2, "Makes a source without rows.", () -> {
            Taskgraphic x = new Taskgraphic();
            x.source(3);
            due("rows(0)", x.rows(0), 0);
            due("held", held(x, 0), "||");
            due("put(0, 1, 1), the first", x.put(0, 1, 1), 1);
        });
        holds(2, "There are up to 14 nodes, numbered from 0 in the order in which they are made", () -> {
            Taskgraphic x = new Taskgraphic();
            for (int n = 0; n < 14; n++) {
                due("source(1)", x.source(1), n);
            }
            due("rows of the 14th", x.rows(13), 0);
        });
        holds(2, FULL, () -> {
            Taskgraphic x = with14Nodes();
            for (int p = 1; p <= 4; p++) {
                int partitions = p;
                throwing("source(" + p + ")", STATE, () -> x.source(partitions));
            }
        });
        holds(2, SEVERAL, () -> outOfRange(with14Nodes()::source, 0, 5, MIN, MAX));
        holds(2, NOTHING, () -> {
            changeNothing(Testing::busy, List.of(x -> x.source(0), x -> x.source(5)));
            changeNothing(Testing::with14Nodes, List.of(x -> x.source(0), x -> x.source(1), x -> x.source(4)));
        });
    }

    // ---- 3

    private static void put() {
        holds(3, "key: any int", () -> {
            Taskgraphic x = new Taskgraphic();
            sourceOfKeys(x, 1, MIN, -1, 0, MAX);
            due("held", held(x, 0), MIN + ":0 -1:0 0:0 " + MAX + ":0");
        });
        holds(3, "value: any int", () -> {
            Taskgraphic x = new Taskgraphic();
            source(x, 1, 1, MIN, 1, -1, 1, 0, 1, MAX);
            due("held", held(x, 0), "1:" + MIN + " 1:-1 1:0 1:" + MAX);
        });
        holds(3, "A source has up to 12 rows.", () -> {
            Taskgraphic x = new Taskgraphic();
            x.source(1);
            for (int row = 1; row <= 12; row++) {
                due("put, row " + row, x.put(0, row, -row), row);
            }
            due("key of the 12th row", x.keyAt(0, 0, 11), 12);
            due("value of the 12th row", x.valueAt(0, 0, 11), -12);
            throwing("the 13th row", STATE, () -> x.put(0, 13, 13));
            due("rows(0)", x.rows(0), 12);
        });
        holds(3, "is in the partition k modulo the number of partitions.", () -> {
            Taskgraphic x = new Taskgraphic();
            due("of 4", held(x, sourceOf(x, 4, 12)), "0:0 4:0 8:0|1:0 5:0 9:0|2:0 6:0 10:0|3:0 7:0 11:0");
            due("of 4, 5 rows", held(x, sourceOf(x, 4, 5)), "0:0 4:0|1:0|2:0|3:0");
            due("of 4, 3 rows", held(x, sourceOf(x, 4, 3)), "0:0|1:0|2:0|");
            due("of 1", held(x, sourceOf(x, 1, 3)), "0:0 1:0 2:0");
        });
        holds(3, NO_NODE, () -> {
            Taskgraphic x = new Taskgraphic();
            sourceOf(x, 1, 1);
            noSuchNode(1, node -> x.put(node, 1, 1));
            Taskgraphic full = with14Nodes();
            throwing("node 14 of 14", BOUNDS, () -> full.put(14, 1, 1));
            due("node 13 of 14", full.put(13, 1, 1), 1);
        });
        holds(3, "Throws IllegalStateException if it is no source, or has 12 rows", () -> {
            Taskgraphic x = busy();
            for (int node = 2; node < 8; node++) {
                int noSource = node;
                throwing("put into node " + node, STATE, () -> x.put(noSource, 1, 1));
            }
            Taskgraphic full = withAFullSource();
            throwing("a 13th row", STATE, () -> full.put(0, MIN, MAX));
            full.source(1);
            due("a first row of another source", full.put(1, 1, 1), 1);
        });
        holds(3, SEVERAL, () -> {
            Taskgraphic x = withAFullSource();
            noSuchNode(1, node -> x.put(node, 1, 1));
        });
        holds(3, NOTHING, () -> {
            changeNothing(Testing::busy, List.of(x -> x.put(-1, 1, 1), x -> x.put(8, 1, 1),
                x -> x.put(2, 1, 1), x -> x.put(5, 1, 1), x -> x.put(6, 1, 1)));
            changeNothing(Testing::withAFullSource, List.of(x -> x.put(0, 1, 1), x -> x.put(1, 1, 1)));
        });
    }

    // ---- 4

    private static String mapped(int how, int constant, int... row) {
        Taskgraphic x = new Taskgraphic();
        source(x, 1, row);
        x.map(0, how, constant);
        return held(x, 1);
    }

    private static void map() {
        holds(4, "how: 0 to 4", () -> {
            Taskgraphic x = new Taskgraphic();
            x.source(1);
            for (int how = 0; how <= 4; how++) {
                due("map(0, " + how + ", 1)", x.map(0, how, 1), how + 1);
            }
        });
        holds(4, "constant: any int; 1 or more, if how is 3", () -> {
            Taskgraphic x = new Taskgraphic();
            x.source(1);
            due("map(0, 3, 1)", x.map(0, 3, 1), 1);
            due("map(0, 3, MAX)", x.map(0, 3, MAX), 2);
            int next = 3;
            for (int how : new int[] {0, 1, 2, 4}) {
                due("map(0, " + how + ", 0)", x.map(0, how, 0), next++);
                due("map(0, " + how + ", MIN)", x.map(0, how, MIN), next++);
            }
            due("map(0, 0, -1)", x.map(0, 0, -1), next);
        });
        holds(4, "how 0 adds the constant to the value", () -> {
            due("over the greatest", mapped(0, 1, 7, MAX), "7:" + MIN);
            due("under the least", mapped(0, -1, 7, MIN), "7:" + MAX);
            due("the least", mapped(0, MIN, 7, MIN), "7:0");
        });
        holds(4, "1 multiplies the value by it", () -> {
            due("65536 times 65536", mapped(1, 65536, 7, 65536), "7:0");
            due("65536 times 32768", mapped(1, 32768, 7, 65536), "7:" + MIN);
            due("the least by -1", mapped(1, -1, 7, MIN), "7:" + MIN);
            due("the greatest by itself", mapped(1, MAX, 7, MAX), "7:1");
            due("by 0", mapped(1, 0, 7, 5), "7:0");
        });
        holds(4, "2 adds it to the key", () -> {
            due("over the greatest", mapped(2, 1, MAX, 7), MIN + ":7");
            due("under the least", mapped(2, MIN, -1, 7), MAX + ":7");
        });
        holds(4, "3 makes the key what it is modulo the constant (0 or more)", () -> {
            due("-1 modulo 5", mapped(3, 5, -1, 7), "4:7");
            due("-5 modulo 5", mapped(3, 5, -5, 7), "0:7");
            due("4 and 5 modulo 5", mapped(3, 5, 4, 7, 5, 7), "4:7 0:7");
            due("modulo 1", mapped(3, 1, MIN, 7, MAX, 7), "0:7 0:7");
            due("the least modulo the greatest", mapped(3, MAX, MIN, 7), (MAX - 1) + ":7");
            due("the greatest modulo itself", mapped(3, MAX, MAX, 7), "0:7");
        });
        holds(4, "4 exchanges key and value", () ->
            due("the least and the greatest", mapped(4, 9, MIN, MAX), MAX + ":" + MIN));
        holds(4, "A map has the partitions and rows of its input, with each row changed", () -> {
            Taskgraphic x = new Taskgraphic();
            x.source(4);
            int eight = x.union(0, 0);
            due("without rows", held(x, x.map(0, 0, 5)), "|||");
            due("of 8 partitions", x.partitions(x.map(eight, 3, 2)), 8);
            x.put(0, 9, 9);
            due("behind a put", held(x, 2), "9:14|||");
        });
        mapThrows();
    }

    private static void mapThrows() {
        holds(4, NO_NODE, () -> {
            Taskgraphic x = new Taskgraphic();
            x.source(1);
            noSuchNode(1, node -> x.map(node, 0, 0));
        });
        holds(4, "Throws IllegalArgumentException if how or constant is out of range", () -> {
            Taskgraphic x = new Taskgraphic();
            x.source(1);
            outOfRange(how -> x.map(0, how, 1), -1, 5, MIN, MAX);
            outOfRange(constant -> x.map(0, 3, constant), 0, -1, MIN);
        });
        holds(4, FULL, () -> {
            Taskgraphic x = with14Nodes();
            throwing("map(0, 0, 0)", STATE, () -> x.map(0, 0, 0));
            throwing("map(13, 3, 1)", STATE, () -> x.map(13, 3, 1));
        });
        holds(4, SEVERAL, () -> {
            Taskgraphic x = with14Nodes();
            noSuchNode(14, node -> x.map(node, 5, 0));
            noSuchNode(14, node -> x.map(node, 3, 0));
            noSuchNode(14, node -> x.map(node, 0, 0));
            outOfRange(how -> x.map(0, how, 1), -1, 5);
            outOfRange(constant -> x.map(0, 3, constant), 0, MIN);
        });
        holds(4, NOTHING, () -> {
            changeNothing(Testing::busy, List.of(x -> x.map(8, 0, 0), x -> x.map(-1, 0, 0), x -> x.map(0, 5, 0),
                x -> x.map(0, -1, 0), x -> x.map(0, 3, 0)));
            changeNothing(Testing::with14Nodes, List.of(x -> x.map(0, 0, 0)));
        });
    }

    // ---- 5

    private static String sifted(int low, int high) {
        Taskgraphic x = new Taskgraphic();
        source(x, 1, 1, MIN, 2, -1, 3, 0, 4, 1, 5, MAX);
        x.filter(0, low, high);
        return held(x, 1);
    }

    private static void filter() {
        holds(5, "those of its rows whose value is from low to high.", () -> {
            due("just low and high", sifted(-1, 1), "2:-1 3:0 4:1");
            due("low is high", sifted(0, 0), "3:0");
            due("low above high", sifted(1, 0), "");
            due("low above high, the ends", sifted(MAX, MIN), "");
            due("all", sifted(MIN, MAX), "1:" + MIN + " 2:-1 3:0 4:1 5:" + MAX);
            due("the least alone", sifted(MIN, MIN), "1:" + MIN);
            due("the greatest alone", sifted(MAX, MAX), "5:" + MAX);
            due("none in between", sifted(2, MAX - 1), "");
        });
        holds(5, "A filter has the partitions of its input", () -> {
            Taskgraphic x = new Taskgraphic();
            source(x, 3, 1, 1, 2, 2);
            x.filter(0, 2, 2);
            x.filter(0, 3, 3);
            due("a row left", held(x, 1), "|2:2|");
            due("no row left", held(x, 2), "||");
            due("of no row", held(x, x.filter(2, MIN, MAX)), "||");
            due("of 8 partitions", x.partitions(x.filter(x.union(x.source(4), 4), 0, 0)), 8);
        });
        holds(5, NO_NODE, () -> {
            Taskgraphic x = new Taskgraphic();
            x.source(1);
            noSuchNode(1, node -> x.filter(node, 0, 0));
        });
        holds(5, FULL, () -> {
            Taskgraphic x = with14Nodes();
            throwing("filter(0, 0, 0)", STATE, () -> x.filter(0, 0, 0));
            throwing("filter(13, 1, 0)", STATE, () -> x.filter(13, 1, 0));
        });
        holds(5, SEVERAL, () -> {
            Taskgraphic x = with14Nodes();
            noSuchNode(14, node -> x.filter(node, 0, 0));
        });
        holds(5, NOTHING, () -> {
            changeNothing(Testing::busy, List.of(x -> x.filter(8, 0, 0), x -> x.filter(-1, 0, 0)));
            changeNothing(Testing::with14Nodes, List.of(x -> x.filter(0, 0, 0), x -> x.filter(14, 0, 0)));
        });
    }

    // ---- 6

    private static void union() {
        holds(6, "second: a node, perhaps the same", () -> {
            Taskgraphic x = new Taskgraphic();
            source(x, 2, 1, 1, 2, 2, 3, 3);
            due("union(0, 0)", x.union(0, 0), 1);
            due("held", held(x, 1), "1:1 3:3|2:2|1:1 3:3|2:2");
        });
        holds(6, "A union has the partitions of its first input, and then those of the second one, with their rows.", () -> {
            Taskgraphic x = new Taskgraphic();
            source(x, 2, 1, 1);
            x.source(1);
            source(x, 3, 4, 4, 5, 5);
            due("an empty partition between", held(x, x.union(0, 2)), "1:1||4:4|5:5|");
            due("the first without rows", held(x, x.union(1, 0)), "|1:1|");
            due("the second without rows", held(x, x.union(0, 1)), "1:1||");
            due("both without rows", held(x, x.union(1, 1)), "|");
        });
        holds(6, "a node is made of earlier ones, its inputs.", () -> {
            Taskgraphic x = new Taskgraphic();
            x.source(1);
            throwing("a union of itself", BOUNDS, () -> x.union(0, 1));
            throwing("a join of itself", BOUNDS, () -> x.join(1, 0, 1));
            throwing("a map of itself", BOUNDS, () -> x.map(1, 0, 0));
            due("a union of the latest one", x.union(0, 0), 1);
            due("a map of the latest one", x.map(1, 0, 0), 2);
        });
        holds(6, NO_NODE, () -> {
            Taskgraphic x = new Taskgraphic();
            x.source(1);
            noSuchNode(1, node -> x.union(node, 0));
            noSuchNode(1, node -> x.union(0, node));
            noSuchNode(1, node -> x.union(node, node));
        });
        holds(6, "Throws IllegalStateException if there are 14 nodes, or its bound or width would be too great", () -> {
            Taskgraphic x = with14Nodes();
            throwing("14 nodes", STATE, () -> x.union(0, 13));
            Taskgraphic y = busy();
            throwing("a bound of 576", STATE, () -> y.union(7, 7));
            throwing("a bound of 300, a width of 10", STATE, () -> y.union(7, 0));
            throwing("a bound of 300, a width of 10", STATE, () -> y.union(0, 7));
        });
        holds(6, SEVERAL, () -> {
            Taskgraphic x = with14Nodes();
            noSuchNode(14, node -> x.union(node, 0));
            noSuchNode(14, node -> x.union(0, node));
            Taskgraphic y = busy();
            noSuchNode(8, node -> y.union(node, 7));
            noSuchNode(8, node -> y.union(7, node));
        });
        holds(6, NOTHING, () -> {
            changeNothing(Testing::busy, List.of(x -> x.union(8, 0), x -> x.union(0, -1), x -> x.union(7, 7),
                x -> x.union(7, 1), x -> x.union(1, 7)));
            changeNothing(Testing::with14Nodes, List.of(x -> x.union(0, 0), x -> x.union(0, 14)));
        });
    }

    private static void widths() {
        holds(6, "no node has a width above 8", () -> {
            Taskgraphic x = new Taskgraphic();
            x.source(4);
            x.source(1);
            int five = x.union(0, 1);
            throwing("a width of 9", STATE, () -> x.union(0, five));
            throwing("a width of 10", STATE, () -> x.union(five, five));
            due("a width of 8", x.union(0, 0), 3);
            throwing("a width of 8 and 1", STATE, () -> x.union(3, 1));
            throwing("a width of 1 and 8", STATE, () -> x.union(1, 3));
            due("partitions", x.partitions(3), 8);
        });
        holds(6, "The width of a source or group is the number of its partitions", () -> {
            Taskgraphic x = new Taskgraphic();
            int eight = x.union(x.source(4), 0);
            for (int p = 1; p <= 4; p++) {
                int group = x.group(eight, 0, p);
                due("a width of 4 and " + p, x.partitions(x.union(0, group)), 4 + p);
            }
            throwing("a width of 8 and 1", STATE, () -> x.union(eight, 2));
        });
        holds(6, "that of a map or filter is that of its input", () -> {
            Taskgraphic x = new Taskgraphic();
            int eight = x.union(x.source(4), 0);
            x.source(1);
            int map = x.map(eight, 0, 0);
            int filter = x.filter(eight, 1, 0);
            throwing("of a map of width 8", STATE, () -> x.union(map, 2));
            throwing("of a filter of width 8", STATE, () -> x.union(2, filter));
            due("of a map and a filter of width 4", x.partitions(x.union(x.map(0, 0, 0), x.filter(0, 0, 0))), 8);
        });
        holds(6, "that of a join is the greater one of the number that it was told and the width of its first input", () -> {
            Taskgraphic x = new Taskgraphic();
            int four = x.source(4);
            int one = x.source(1);
            int five = x.union(four, one);
            int told = x.join(one, one, 4);
            int wide = x.join(four, one, 1);
            due("partitions of the one that was told 4", x.partitions(told), 1);
            throwing("told 4, and 5", STATE, () -> x.union(told, five));
            throwing("a first input of width 4, and 5", STATE, () -> x.union(five, wide));
            due("told 4, and 4", x.union(told, four), 5);
            due("a first input of width 4, and 4", x.union(wide, four), 6);
            int narrow = x.join(one, four, 1);
            due("a second input of width 4, and 5", x.union(narrow, five), 8);
        });
    }

    private static void bounds() {
        holds(6, "no node has a bound above 300", () -> {
            Taskgraphic x = new Taskgraphic();
            sourceOfKeys(x, 1, 5, 5, 5, 5, 5, 5, 5, 5, 5, 5, 5, 5);
            int most = x.union(x.union(x.join(0, 0, 1), 1), 0);
            due("a bound of 300", most, 3);
            due("its rows", x.rows(most), 300);
            due("the key of the last row", x.keyAt(most, 2, 11), 5);
            due("its digest", x.digest(most), 300 * 155 * 155);
            throwing("a bound of 312", STATE, () -> x.union(most, 0));
            throwing("a bound of 312", STATE, () -> x.union(0, most));
        });
        holds(6, "The bound of a source is 12", () -> {
            Taskgraphic x = new Taskgraphic();
            x.source(1);
            int most = x.union(x.union(x.join(0, 0, 1), 1), 0);
            due("rows of a bound of 300", x.rows(most), 0);
            throwing("a source without rows, a bound of 312", STATE, () -> x.union(most, 0));
        });
        holds(7, "that of a map, filter or group is that of its input", () -> {
            Taskgraphic x = new Taskgraphic();
            sourceOf(x, 1, 1);
            int most = x.union(x.union(x.join(0, 0, 1), 1), 0);
            int group = x.group(most, 0, 1);
            int map = x.map(most, 0, 0);
            int filter = x.filter(most, 1, 0);
            due("rows of the group", x.rows(group), 1);
            for (int node : new int[] {group, map, filter}) {
                throwing("a bound of 312", STATE, () -> x.union(node, 0));
                throwing("a bound of 3600", STATE, () -> x.join(node, 0, 1));
            }
            int small = x.join(x.map(0, 0, 0), x.filter(0, 0, 0), 1);
            due("a bound of 144, twice", x.union(small, x.group(small, 0, 1)), 11);
        });
        holds(8, "that of a join the product of those of its inputs", () -> {
            Taskgraphic x = new Taskgraphic();
            x.source(1);
            int two = x.union(0, 0);
            int three = x.union(two, 0);
            due("12 times 24", x.join(0, two, 1), 3);
            due("24 times 12", x.join(two, 0, 1), 4);
            throwing("24 times 24", STATE, () -> x.join(two, two, 1));
            throwing("12 times 36", STATE, () -> x.join(0, three, 1));
            throwing("36 times 12", STATE, () -> x.join(three, 0, 1));
            due("a bound of 288 and 12", x.union(3, 0), 5);
            throwing("a bound of 288 and 24", STATE, () -> x.union(3, two));
        });
    }

    // ---- 7

    private static String grouped(int how, int partitions, int... rows) {
        Taskgraphic x = new Taskgraphic();
        source(x, 1, rows);
        x.group(0, how, partitions);
        return held(x, 1);
    }

    private static void group() {
        holds(7, "how: 0 to 3", () -> {
            Taskgraphic x = new Taskgraphic();
            x.source(1);
            for (int how = 0; how <= 3; how++) {
                due("group(0, " + how + ", 1)", x.group(0, how, 1), how + 1);
            }
        });
        holds(7, "partitions: 1 to 4", () -> {
            Taskgraphic x = new Taskgraphic();
            x.source(1);
            for (int p = 1; p <= 4; p++) {
                due("group(0, 0, " + p + ")", x.group(0, 0, p), p);
                due("its partitions", x.partitions(p), p);
            }
        });
        holds(7, SHARE, () -> {
            int[] rows = {-1, 1, -2, 2, -3, 3, -4, 4, MIN, 5, MAX, 6, 0, 7};
            due("among 1", grouped(1, 1, rows), MIN + ":5 -4:4 -3:3 -2:2 -1:1 0:7 " + MAX + ":6");
            due("among 2", grouped(1, 2, rows), MIN + ":5 -4:4 -2:2 0:7|-3:3 -1:1 " + MAX + ":6");
            due("among 3", grouped(1, 3, rows), "-3:3 0:7|" + MIN + ":5 -2:2 " + MAX + ":6|-4:4 -1:1");
            due("among 4", grouped(1, 4, rows), MIN + ":5 -4:4 0:7|-3:3|-2:2|-1:1 " + MAX + ":6");
        });
        holds(7, "A group has one row for each key of its input", () -> {
            due("no key", grouped(0, 3), "||");
            due("a single row", grouped(2, 2, 5, -9), "|5:-9");
            Taskgraphic x = new Taskgraphic();
            source(x, 2, 1, 1, 2, 2);
            int none = x.filter(0, 9, 9);
            for (int how = 0; how <= 3; how++) {
                due("of a filter that leaves no row", held(x, x.group(none, how, 2)), "|");
            }
            x.put(0, 2, 9);
            due("behind a put", held(x, 5), "2:1|");
            due("rows behind a put", x.rows(2), 1);
        });
        holds(7, "in the partition that is the share of the key, by rising keys", () ->
            due("the least first, the greatest last", grouped(3, 2, 3, 0, MAX, 0, 1, 0, -5, 0, MIN, 0, -2, 0, 0, 0),
                MIN + ":1 -2:1 0:1|-5:1 1:1 3:1 " + MAX + ":1"));
        holds(7, "its value is the sum (how 0), the least (1) or the greatest (2) of the values"
            + " that the input has with this key, or how many these are (3).", () -> {
                due("a sum over the greatest", grouped(0, 1, 1, MAX, 1, 1), "1:" + MIN);
                due("a sum under the least", grouped(0, 1, 1, MIN, 1, MIN), "1:0");
                due("the least", grouped(1, 1, 1, MAX, 1, MIN, 1, 0), "1:" + MIN);
                due("the least of one", grouped(1, 1, 1, MAX), "1:" + MAX);
                due("the greatest", grouped(2, 1, 1, MIN, 1, MAX, 1, 0), "1:" + MAX);
                due("the greatest of one", grouped(2, 1, 1, MIN), "1:" + MIN);
                due("how many", grouped(3, 1, 1, MIN, 1, MAX, 2, 7), "1:2 2:1");
                due("how many of 300", heldByAGroupOf300(), "5:300");
            });
        groupThrows();
    }

    private static String heldByAGroupOf300() {
        Taskgraphic x = new Taskgraphic();
        sourceOfKeys(x, 1, 5, 5, 5, 5, 5, 5, 5, 5, 5, 5, 5, 5);
        return held(x, x.group(x.union(x.union(x.join(0, 0, 1), 1), 0), 3, 1));
    }

    private static void groupThrows() {
        holds(7, NO_NODE, () -> {
            Taskgraphic x = new Taskgraphic();
            x.source(1);
            noSuchNode(1, node -> x.group(node, 0, 1));
        });
        holds(7, "Throws IllegalArgumentException if how or partitions is out of range", () -> {
            Taskgraphic x = new Taskgraphic();
            x.source(1);
            outOfRange(how -> x.group(0, how, 1), -1, 4, MIN, MAX);
            outOfRange(partitions -> x.group(0, 0, partitions), 0, 5, -1, MIN, MAX);
        });
        holds(7, FULL, () -> {
            Taskgraphic x = with14Nodes();
            throwing("group(0, 0, 1)", STATE, () -> x.group(0, 0, 1));
            throwing("group(13, 3, 4)", STATE, () -> x.group(13, 3, 4));
        });
        holds(7, SEVERAL, () -> {
            Taskgraphic x = with14Nodes();
            noSuchNode(14, node -> x.group(node, 4, 1));
            noSuchNode(14, node -> x.group(node, 0, 5));
            noSuchNode(14, node -> x.group(node, 0, 1));
            outOfRange(how -> x.group(0, how, 1), -1, 4);
            outOfRange(partitions -> x.group(0, 0, partitions), 0, 5);
        });
        holds(7, NOTHING, () -> {
            changeNothing(Testing::busy, List.of(x -> x.group(8, 0, 1), x -> x.group(-1, 0, 1),
                x -> x.group(0, 4, 1), x -> x.group(0, -1, 1), x -> x.group(0, 0, 5), x -> x.group(0, 0, 0)));
            changeNothing(Testing::with14Nodes, List.of(x -> x.group(0, 0, 1)));
        });
    }

    // ---- 8

    private static void join() {
        holds(8, "partitions: 1 to 4", () -> {
            Taskgraphic x = new Taskgraphic();
            sourceOf(x, 1, 5);
            for (int p = 1; p <= 4; p++) {
                due("join(0, 0, " + p + ")", x.join(0, 0, p), p);
                due("its partitions", x.partitions(p), p);
            }
        });
        holds(8, "It is broad, if the second input has no more rows than the limit, which is 4 at first", () -> {
            Taskgraphic x = new Taskgraphic();
            sourceOf(x, 1, 1);
            sourceOf(x, 1, 4);
            int join = x.join(0, 1, 3);
            due("partitions, 4 rows", x.partitions(join), 1);
            x.put(1, 9, 9);
            due("partitions, 5 rows", x.partitions(join), 3);
            int other = x.join(1, 0, 3);
            due("partitions, the first input has 5 rows", x.partitions(other), 1);
            x.setLimit(0);
            due("partitions, 1 row, a limit of 0", x.partitions(other), 3);
            x.source(1);
            due("partitions, no row, a limit of 0", x.partitions(x.join(1, 4, 3)), 1);
        });
        holds(8, "it has the partitions of the first input then, and in them the rows made of these, in their order,"
            + " each with those of the second input in their order, partition by partition.", () -> {
                Taskgraphic x = new Taskgraphic();
                source(x, 3, 2, 10, 9, 20, 1, 30, 1, 40);
                source(x, 2, 1, 1, 1, 2, 1, 3, 2, 4);
                due("held", held(x, x.join(0, 1, 1)), "2:14 1:41 1:43 1:42||1:31 1:33 1:32");
                int none = x.source(2);
                due("the first without rows", held(x, x.join(none, 1, 1)), "|");
                due("the second without rows", held(x, x.join(0, none, 1)), "||");
                due("both without rows", held(x, x.join(none, none, 1)), "|");
                int wide = x.union(x.source(4), 0);
                due("of width 7", x.partitions(x.join(wide, none, 1)), 7);
            });
        holds(8, "A join has a row for each row of its first input and each row of its second input with the same key,"
            + " with this key, and the sum of both values.", () -> {
                Taskgraphic x = new Taskgraphic();
                source(x, 1, MAX, MAX, MIN, MIN, 0, 5);
                source(x, 1, MIN, MIN, MAX, 1, 1, 5);
                int join = x.join(0, 1, 1);
                due("broad", held(x, join), MAX + ":" + MIN + " " + MIN + ":0");
                x.setLimit(2);
                due("not broad", held(x, join), MIN + ":0 " + MAX + ":" + MIN);
            });
        holds(8, "second: a node, perhaps the same", () -> {
            Taskgraphic x = new Taskgraphic();
            source(x, 2, 1, 1, 1, 2, 2, 5);
            x.join(0, 0, 2);
            due("broad", held(x, 1), "1:2 1:3 2:10|1:3 1:4");
            x.setLimit(2);
            due("not broad", held(x, 1), "2:10|1:2 1:3 1:3 1:4");
        });
    }

    private static void joinByKeys() {
        holds(8, "Otherwise it has as many partitions as it was told, its rows in the shares of their keys, by rising keys,"
            + " those with the same key in the order of the first input, and then of the second one,"
            + " partition by partition.", () -> {
                Taskgraphic x = new Taskgraphic();
                source(x, 2, 5, 1, 5, 2, 5, 3, MIN, 4, MAX, 5, -1, 6);
                source(x, 2, 5, 10, 5, 20, 5, 30, -1, 40, MIN, 50, MAX, 60);
                // Partition by partition, with the key 5 come 1, 3 and 2, and 10, 30 and 20.
                String fives = "5:11 5:31 5:21 5:13 5:33 5:23 5:12 5:32 5:22";
                due("told 2", held(x, x.join(0, 1, 2)), MIN + ":54|-1:46 " + fives + " " + MAX + ":65");
                due("told 4", held(x, x.join(0, 1, 4)), MIN + ":54|" + fives + "||-1:46 " + MAX + ":65");
                int none = x.source(4);
                due("the first without rows", held(x, x.join(none, 1, 3)), "||");
                int zeros = sourceOfKeys(x, 1, 0, 0, 7, 0, 0, 0);
                due("the key 0 in the second alone", held(x, x.join(0, zeros, 2)), "|");
                due("the key 0 in both", held(x, x.join(sourceOfKeys(x, 1, 0), zeros, 2)), "0:0 0:0 0:0 0:0 0:0|");
                due("no key in both", held(x, x.join(x.map(0, 2, 100), 1, 2)), "|");
            });
        holds(8, NO_NODE, () -> {
            Taskgraphic x = new Taskgraphic();
            x.source(1);
            noSuchNode(1, node -> x.join(node, 0, 1));
            noSuchNode(1, node -> x.join(0, node, 1));
            noSuchNode(1, node -> x.join(node, node, 1));
        });
        holds(8, "Throws IllegalArgumentException if partitions is out of range", () -> {
            Taskgraphic x = new Taskgraphic();
            x.source(1);
            outOfRange(partitions -> x.join(0, 0, partitions), 0, 5, -1, MIN, MAX);
        });
        holds(8, "Throws IllegalStateException if there are 14 nodes, or its bound would be too great", () -> {
            Taskgraphic x = with14Nodes();
            throwing("14 nodes", STATE, () -> x.join(0, 13, 1));
            Taskgraphic y = busy();
            throwing("24 times 24", STATE, () -> y.join(4, 4, 1));
            throwing("12 times 288", STATE, () -> y.join(0, 7, 1));
            throwing("288 times 288", STATE, () -> y.join(7, 7, 1));
            Taskgraphic z = new Taskgraphic();
            z.union(z.source(4), 0);
            due("a width of 8 is none too great", z.partitions(z.join(1, 0, 4)), 8);
        });
        holds(8, SEVERAL, () -> {
            Taskgraphic x = with14Nodes();
            noSuchNode(14, node -> x.join(node, 0, 0));
            noSuchNode(14, node -> x.join(0, node, 5));
            noSuchNode(14, node -> x.join(0, node, 1));
            outOfRange(partitions -> x.join(0, 0, partitions), 0, 5);
            Taskgraphic y = busy();
            noSuchNode(8, node -> y.join(7, node, 1));
            outOfRange(partitions -> y.join(7, 7, partitions), 0, 5);
        });
        holds(8, NOTHING, () -> {
            changeNothing(Testing::busy, List.of(x -> x.join(8, 0, 1), x -> x.join(0, -1, 1), x -> x.join(0, 0, 0),
                x -> x.join(0, 0, 5), x -> x.join(7, 0, 1), x -> x.join(4, 4, 1)));
            changeNothing(Testing::with14Nodes, List.of(x -> x.join(0, 0, 1)));
        });
    }

    // ---- 9

    private static void nodes() {
        holds(9, "Returns how many nodes there are.", () -> {
            due("of none", new Taskgraphic().nodes(), 0);
            due("of each kind", busy().nodes(), 8);
            Taskgraphic full = with14Nodes();
            due("of 14", full.nodes(), 14);
            throwing("a 15th node", STATE, () -> full.source(1));
            due("behind a 15th one that was refused", full.nodes(), 14);
        });
        holds(4, INTS, () -> {
            due("the square of 46341", mapped(1, 46341, 1, 46341), "1:-2147479015");
            Taskgraphic x = new Taskgraphic();
            sourceOfKeys(x, 1, MAX);
            x.map(0, 2, 1);
            due("the share of the greatest key and 1", held(x, x.group(1, 0, 2)), MIN + ":0|");
        });
    }
}
