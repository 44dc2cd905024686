/**
 * The promises of the document one by one, each under what it says that its call does and returns,
 * with answers that were reckoned by hand.
 */
public final class PromiseTests extends Sentences {
    // ---- nodes

    private static void aNewObject() {
        Taskgraphic x = new Taskgraphic();
        due("nodes()", x.nodes(), 0);
        due("ticks()", x.ticks(), 0);
        due("spilled()", x.spilled(), 0);
        due("attempts()", x.attempts(), 0);
        due("share()", x.share(), 0.0f);
        due("setWorkers(1)", x.setWorkers(1), 2);
        for (int worker = 0; worker < 4; worker++) {
            due("setSlowness(" + worker + ", 5)", x.setSlowness(worker, 5), 1);
        }
        due("setMemory(1)", x.setMemory(1), 20);
        due("setLimit(1)", x.setLimit(1), 4);
        due("setRoom(1)", x.setRoom(1), 0);
        x.source(1);
        Taskgraphic another = new Taskgraphic();
        due("nodes() of another", another.nodes(), 0);
        due("setMemory(1) of another", another.setMemory(1), 20);
        throwing("rows(0) without nodes", BOUNDS, () -> another.rows(0));
    }

    private static void source() {
        Taskgraphic x = new Taskgraphic();
        for (int p = 1; p <= 4; p++) {
            due("source(" + p + ")", x.source(p), p - 1);
            due("partitions", x.partitions(p - 1), p);
            due("rows", x.rows(p - 1), 0);
        }
        for (int p : new int[] {0, 5, -1, MIN, MAX}) {
            throwing("source(" + p + ")", ARGUMENT, () -> x.source(p));
        }
        due("nodes() behind these", x.nodes(), 4);
        for (int n = 4; n < 14; n++) {
            due("source(1)", x.source(1), n);
        }
        throwing("the 15th node", STATE, () -> x.source(1));
        throwing("the 15th node, out of range", ARGUMENT, () -> x.source(0));
        due("nodes() in the end", x.nodes(), 14);
    }

    private static void put() {
        Taskgraphic x = new Taskgraphic();
        x.source(3);
        for (int k = 0; k < 12; k++) {
            due("put", x.put(0, k == 0 ? MIN : k, k == 1 ? MAX : -k), k + 1);
        }
        throwing("the 13th row", STATE, () -> x.put(0, 1, 1));
        due("rows(0)", x.rows(0), 12);
        due("held", held(x, 0), MIN + ":0 3:-3 6:-6 9:-9|1:" + MAX + " 4:-4 7:-7 10:-10|2:-2 5:-5 8:-8 11:-11");
        x.map(0, 0, 1);
        x.join(0, 0, 1);
        throwing("put into a map", STATE, () -> x.put(1, 1, 1));
        throwing("put into a join", STATE, () -> x.put(2, 1, 1));
        for (int n : new int[] {-1, 3, 14, MIN, MAX}) {
            throwing("put(" + n + ", 1, 1)", BOUNDS, () -> x.put(n, 1, 1));
        }
        putChangesWhatIsMadeOfIt();
        putEmptiesTheCache();
    }

    private static void putChangesWhatIsMadeOfIt() {
        Taskgraphic x = new Taskgraphic();
        int s = source(x, 2, 1, 10);
        int g = x.group(x.map(s, 0, 5), 0, 1);
        due("held", held(x, g), "1:15");
        due("digestInPlace", x.digestInPlace(g), 46 * 46);
        x.put(s, 1, 1);
        due("held behind put", held(x, g), "1:21");
        due("digestInPlace behind put", x.digestInPlace(g), 52 * 52);
    }

    private static void putEmptiesTheCache() {
        Taskgraphic x = new Taskgraphic();
        int s = source(x, 1, 1, 1);
        int other = x.source(1);
        int m = x.map(s, 0, 1);
        x.setRoom(9);
        x.mark(s, true);
        x.mark(m, true);
        x.run(m);
        due("cached", cached(x), "0 2");
        throwing("put(2, 1, 1)", STATE, () -> x.put(m, 1, 1));
        throwing("put(3, 1, 1)", BOUNDS, () -> x.put(3, 1, 1));
        due("cached behind calls that threw", cached(x), "0 2");
        x.put(other, 1, 1);
        due("cached behind put", cached(x), "");
    }

    private static void map() {
        Taskgraphic x = new Taskgraphic();
        int s = source(x, 2, 7, 3, -7, MAX, MIN, -2);
        due("map(0, 0, 2)", x.map(s, 0, 2), 1);
        due("adds to the value", held(x, 1), "7:5 " + MIN + ":0|-7:" + (MIN + 1));
        x.map(s, 1, -3);
        due("multiplies the value", held(x, 2), "7:-9 " + MIN + ":6|-7:" + MAX * -3);
        x.map(s, 2, -1);
        due("adds to the key", held(x, 3), "6:3 " + MAX + ":-2|-8:" + MAX);
        x.map(s, 3, 5);
        due("the key modulo", held(x, 4), "2:3 2:-2|3:" + MAX);
        x.map(s, 3, 1);
        due("the key modulo 1", held(x, 5), "0:3 0:-2|0:" + MAX);
        x.map(s, 3, MAX);
        due("the key modulo the greatest", held(x, 6), "7:3 " + (MAX - 1) + ":-2|" + (MAX - 7) + ":" + MAX);
        x.map(s, 4, MIN);
        due("exchanges", held(x, 7), "3:7 -2:" + MIN + "|" + MAX + ":-7");
        for (int how : new int[] {-1, 5, MIN, MAX}) {
            throwing("map(0, " + how + ", 1)", ARGUMENT, () -> x.map(s, how, 1));
        }
        for (int constant : new int[] {0, -1, MIN}) {
            throwing("map(0, 3, " + constant + ")", ARGUMENT, () -> x.map(s, 3, constant));
        }
        for (int n : new int[] {-1, 8, MIN, MAX}) {
            throwing("map(" + n + ", 9, 1)", BOUNDS, () -> x.map(n, 9, 1));
        }
        Taskgraphic full = with14Nodes();
        throwing("map, a 15th node", STATE, () -> full.map(0, 0, 1));
        throwing("map, a 15th node, how out of range", ARGUMENT, () -> full.map(0, 5, 1));
        throwing("map, a 15th node, no such input", BOUNDS, () -> full.map(14, 5, 1));
        due("nodes() behind these", full.nodes(), 14);
    }

    private static void filter() {
        Taskgraphic x = new Taskgraphic();
        int s = source(x, 2, 1, 5, 2, 6, 3, 9, 4, 10, 5, MIN, 6, MAX);
        due("filter(0, 6, 9)", x.filter(s, 6, 9), 1);
        due("from low to high", held(x, 1), "3:9|2:6");
        x.filter(s, 9, 6);
        due("low above high", held(x, 2), "|");
        x.filter(s, MIN, MAX);
        due("all", held(x, 3), held(x, s));
        x.filter(s, MAX, MAX);
        due("one", held(x, 4), "|6:" + MAX);
        throwing("filter(-1, 0, 0)", BOUNDS, () -> x.filter(-1, 0, 0));
        throwing("filter(5, 0, 0)", BOUNDS, () -> x.filter(5, 0, 0));
        Taskgraphic full = with14Nodes();
        throwing("filter, a 15th node", STATE, () -> full.filter(13, 0, 0));
        throwing("filter, a 15th node, no such input", BOUNDS, () -> full.filter(14, 0, 0));
    }

    private static void union() {
        Taskgraphic x = new Taskgraphic();
        int a = source(x, 2, 1, 1, 2, 2, 3, 3);
        int b = source(x, 3, 4, 4, 1, 5);
        due("union(1, 0)", x.union(b, a), 2);
        due("held", held(x, 2), "4:4|1:5||1:1 3:3|2:2");
        x.union(a, a);
        due("of the same", held(x, 3), "1:1 3:3|2:2|1:1 3:3|2:2");
        throwing("union(0, 4)", BOUNDS, () -> x.union(a, 4));
        throwing("union(4, 0)", BOUNDS, () -> x.union(4, a));
        throwing("union(-1, 0)", BOUNDS, () -> x.union(-1, a));
        throwing("union(0, -1)", BOUNDS, () -> x.union(a, -1));
        Taskgraphic full = with14Nodes();
        throwing("union, a 15th node", STATE, () -> full.union(0, 1));
        throwing("union, a 15th node, no such input", BOUNDS, () -> full.union(0, 14));
        unionUpToTheWidth();
        unionUpToTheBound();
    }

    private static void unionUpToTheWidth() {
        Taskgraphic x = new Taskgraphic();
        int one = x.source(1);
        int four = x.source(4);
        int eight = x.union(four, four);
        due("partitions of width 8", x.partitions(eight), 8);
        throwing("a width of 9", STATE, () -> x.union(eight, one));
        throwing("a width of 9", STATE, () -> x.union(one, eight));
        int broad = x.join(one, one, 4);
        due("broad", x.isBroad(broad), true);
        due("partitions of a broad join", x.partitions(broad), 1);
        int five = x.union(four, one);
        throwing("a width of 4 and 5", STATE, () -> x.union(broad, five));
        int wide = x.join(four, one, 1);
        throwing("a width of 4 and 5", STATE, () -> x.union(wide, five));
        due("nodes()", x.nodes(), 6);
        due("a width of 8", x.union(wide, broad), 6);
        int grouped = x.group(eight, 0, 3);
        due("the width of a group", x.union(grouped, five), 8);
        int kept = x.filter(x.map(eight, 0, 0), 0, 0);
        throwing("the width of a filter of a map", STATE, () -> x.union(kept, one));
    }

    private static void unionUpToTheBound() {
        Taskgraphic x = new Taskgraphic();
        int s = x.source(1);
        for (int i = 0; i < 12; i++) {
            x.put(s, 5, i);
        }
        int j = x.join(s, s, 1);
        int u = x.union(j, j);
        due("a bound of 300", x.union(u, s), 3);
        due("rows of it", x.rows(3), 300);
        due("its last value", x.valueAt(3, 2, 11), 11);
        due("its last value but 12", x.valueAt(3, 1, 143), 22);
        throwing("a bound of 312", STATE, () -> x.union(3, s));
        throwing("a bound of 312", STATE, () -> x.union(s, 3));
        int g = x.group(x.filter(x.map(3, 0, 1), 5, 6), 0, 1);
        due("rows of a group of it", x.rows(g), 1);
        throwing("the bound of a group of it", STATE, () -> x.union(g, s));
        due("nodes()", x.nodes(), 7);
    }

    private static void group() {
        Taskgraphic x = new Taskgraphic();
        int s = source(x, 2, 5, 1, -3, 7, 5, MAX, 0, 2, -3, -9, 2, 4, -8, 0);
        due("group(0, 0, 3)", x.group(s, 0, 3), 1);
        due("sums", held(x, 1), "-3:-2 0:2|-8:0|2:4 5:" + MIN);
        x.group(s, 1, 1);
        due("leasts", held(x, 2), "-8:0 -3:-9 0:2 2:4 5:1");
        x.group(s, 2, 2);
        due("greatests", held(x, 3), "-8:0 0:2 2:4|-3:7 5:" + MAX);
        x.group(s, 3, 4);
        due("counts", held(x, 4), "-8:1 0:1|-3:2 5:2|2:1|");
        for (int how : new int[] {-1, 4, MIN, MAX}) {
            throwing("group(0, " + how + ", 1)", ARGUMENT, () -> x.group(s, how, 1));
        }
        for (int p : new int[] {0, 5, MIN, MAX}) {
            throwing("group(0, 0, " + p + ")", ARGUMENT, () -> x.group(s, 0, p));
        }
        throwing("group(5, 4, 5)", BOUNDS, () -> x.group(5, 4, 5));
        throwing("group(-1, 0, 1)", BOUNDS, () -> x.group(-1, 0, 1));
        Taskgraphic full = with14Nodes();
        throwing("group, a 15th node", STATE, () -> full.group(0, 0, 1));
        throwing("group, a 15th node, how out of range", ARGUMENT, () -> full.group(0, 4, 1));
        throwing("group, a 15th node, partitions out of range", ARGUMENT, () -> full.group(0, 0, 5));
        throwing("group, a 15th node, no such input", BOUNDS, () -> full.group(14, 0, 5));
    }

    private static void join() {
        Taskgraphic x = new Taskgraphic();
        int a = source(x, 2, 4, 1, -1, 2, 4, 3, MAX, 4, 7, 5, MIN, 6);
        int b = source(x, 2, 4, 10, -1, 20, 4, 30, MAX, MAX, MIN, 40, 4, 60);
        due("join(0, 1, 3)", x.join(a, b, 3), 2);
        due("by keys", held(x, 2), "|" + MIN + ":46 4:11 4:31 4:61 4:13 4:33 4:63 " + MAX + ":" + (MIN + 3) + "|-1:22");
        x.setLimit(6);
        due("broad", held(x, 2),
            "4:11 4:31 4:61 4:13 4:33 4:63|-1:22 " + MAX + ":" + (MIN + 3) + " " + MIN + ":46");
        x.setLimit(5);
        due("by keys again", x.partitions(2), 3);
        for (int p : new int[] {0, 5, MIN, MAX}) {
            throwing("join(0, 1, " + p + ")", ARGUMENT, () -> x.join(a, b, p));
        }
        throwing("join(3, 0, 5)", BOUNDS, () -> x.join(3, a, 5));
        throwing("join(0, 3, 5)", BOUNDS, () -> x.join(a, 3, 5));
        throwing("join(0, -1, 1)", BOUNDS, () -> x.join(a, -1, 1));
        throwing("join(-1, 0, 1)", BOUNDS, () -> x.join(-1, a, 1));
        throwing("a bound of 1728", STATE, () -> x.join(2, a, 1));
        throwing("a bound of 1728", STATE, () -> x.join(a, 2, 1));
        throwing("a bound of 1728, partitions out of range", ARGUMENT, () -> x.join(a, 2, 0));
        int u = x.union(a, b);
        due("a bound of 288", x.join(a, u, 1), 4);
        throwing("a bound of 576", STATE, () -> x.join(u, u, 1));
        int three = x.union(u, a);
        throwing("a bound of 432", STATE, () -> x.join(a, three, 1));
        due("with itself", x.join(b, b, 1), 6);
        due("held", held(x, 6), MIN + ":80 -1:40 4:20 4:40 4:70 4:40 4:60 4:90 4:70 4:90 4:120 " + MAX + ":-2");
        Taskgraphic full = with14Nodes();
        throwing("join, a 15th node", STATE, () -> full.join(0, 1, 1));
        throwing("join, a 15th node, partitions out of range", ARGUMENT, () -> full.join(0, 1, 5));
        throwing("join, a 15th node, no such input", BOUNDS, () -> full.join(0, 14, 5));
    }

    private static void nodes() {
        Taskgraphic x = new Taskgraphic();
        due("nodes()", x.nodes(), 0);
        x.source(1);
        x.map(0, 0, 0);
        x.filter(0, 0, 0);
        x.union(0, 0);
        x.group(0, 0, 1);
        x.join(0, 0, 1);
        due("nodes()", x.nodes(), 6);
        throwing("join(9, 9, 1)", BOUNDS, () -> x.join(9, 9, 1));
        due("nodes() behind a call that threw", x.nodes(), 6);
        due("nodes() of 14", with14Nodes().nodes(), 14);
    }

    // ---- what nodes hold

    private static void partitions() {
        Taskgraphic x = new Taskgraphic();
        int s = source(x, 3, 1, 1, 2, 2);
        int t = source(x, 4, 1, 1, 1, 1, 1, 1, 1, 1, 1, 1);
        int m = x.map(s, 0, 0);
        int f = x.filter(m, 5, 0);
        int g = x.group(s, 0, 2);
        int j = x.join(s, t, 2);
        int u = x.union(f, j);
        due("of a source", x.partitions(t), 4);
        due("of a map", x.partitions(m), 3);
        due("of a filter", x.partitions(f), 3);
        due("of a group", x.partitions(g), 2);
        due("of a join", x.partitions(j), 2);
        due("of a union", x.partitions(u), 5);
        x.setLimit(5);
        due("of a broad join", x.partitions(j), 3);
        due("of a union of it", x.partitions(u), 6);
        throwing("partitions(-1)", BOUNDS, () -> x.partitions(-1));
        throwing("partitions(7)", BOUNDS, () -> x.partitions(7));
    }

    private static Taskgraphic withFiveRows() {
        Taskgraphic x = new Taskgraphic();
        source(x, 2, 1, 10, 2, 20, 3, 30, 4, 40, 5, 50);
        x.filter(0, 15, 45);
        return x;
    }

    private static void rowsIn() {
        Taskgraphic x = withFiveRows();
        due("rowsIn(0, 0)", x.rowsIn(0, 0), 3);
        due("rowsIn(0, 1)", x.rowsIn(0, 1), 2);
        due("rowsIn(1, 0)", x.rowsIn(1, 0), 1);
        due("rowsIn(1, 1)", x.rowsIn(1, 1), 2);
        for (int part : new int[] {-1, 2, 8, MIN, MAX}) {
            throwing("rowsIn(0, " + part + ")", BOUNDS, () -> x.rowsIn(0, part));
        }
        throwing("rowsIn(2, 0)", BOUNDS, () -> x.rowsIn(2, 0));
        throwing("rowsIn(-1, 0)", BOUNDS, () -> x.rowsIn(-1, 0));
    }

    private static void rows() {
        Taskgraphic x = withFiveRows();
        due("rows(0)", x.rows(0), 5);
        due("rows(1)", x.rows(1), 3);
        throwing("rows(2)", BOUNDS, () -> x.rows(2));
        throwing("rows(-1)", BOUNDS, () -> x.rows(-1));
    }

    private static void keyAt() {
        Taskgraphic x = withFiveRows();
        due("keyAt(0, 0, 2)", x.keyAt(0, 0, 2), 5);
        due("keyAt(0, 1, 0)", x.keyAt(0, 1, 0), 2);
        due("keyAt(1, 1, 1)", x.keyAt(1, 1, 1), 4);
        for (int place : new int[] {-1, 3, MIN, MAX}) {
            throwing("keyAt(0, 0, " + place + ")", BOUNDS, () -> x.keyAt(0, 0, place));
        }
        throwing("keyAt(0, 1, 2)", BOUNDS, () -> x.keyAt(0, 1, 2));
        throwing("keyAt(0, 2, 0)", BOUNDS, () -> x.keyAt(0, 2, 0));
        throwing("keyAt(0, -1, 0)", BOUNDS, () -> x.keyAt(0, -1, 0));
        throwing("keyAt(2, 0, 0)", BOUNDS, () -> x.keyAt(2, 0, 0));
        throwing("keyAt(-1, 0, 0)", BOUNDS, () -> x.keyAt(-1, 0, 0));
    }

    private static void valueAt() {
        Taskgraphic x = withFiveRows();
        due("valueAt(0, 0, 2)", x.valueAt(0, 0, 2), 50);
        due("valueAt(0, 1, 0)", x.valueAt(0, 1, 0), 20);
        due("valueAt(1, 1, 1)", x.valueAt(1, 1, 1), 40);
        for (int place : new int[] {-1, 3, MIN, MAX}) {
            throwing("valueAt(0, 0, " + place + ")", BOUNDS, () -> x.valueAt(0, 0, place));
        }
        throwing("valueAt(0, 1, 2)", BOUNDS, () -> x.valueAt(0, 1, 2));
        throwing("valueAt(0, 2, 0)", BOUNDS, () -> x.valueAt(0, 2, 0));
        throwing("valueAt(0, -1, 0)", BOUNDS, () -> x.valueAt(0, -1, 0));
        throwing("valueAt(2, 0, 0)", BOUNDS, () -> x.valueAt(2, 0, 0));
        throwing("valueAt(-1, 0, 0)", BOUNDS, () -> x.valueAt(-1, 0, 0));
    }

    private static void isBroad() {
        Taskgraphic x = new Taskgraphic();
        int s = source(x, 1, 1, 1, 2, 2, 3, 3, 4, 4, 5, 5);
        int t = source(x, 1, 1, 1, 2, 2, 3, 3, 4, 4);
        int j = x.join(s, t, 1);
        int k = x.join(t, s, 1);
        due("4 rows, limit 4", x.isBroad(j), true);
        due("5 rows, limit 4", x.isBroad(k), false);
        x.setLimit(3);
        due("4 rows, limit 3", x.isBroad(j), false);
        x.setLimit(5);
        due("5 rows, limit 5", x.isBroad(k), true);
        x.put(s, 6, 6);
        due("6 rows, limit 5", x.isBroad(k), false);
        x.setLimit(0);
        int none = x.source(1);
        due("no rows, limit 0", x.isBroad(x.join(s, none, 1)), true);
        throwing("isBroad of a source", STATE, () -> x.isBroad(s));
        throwing("isBroad of a union", STATE, () -> x.isBroad(x.union(s, t)));
        throwing("isBroad(14)", BOUNDS, () -> x.isBroad(14));
        throwing("isBroad(-1)", BOUNDS, () -> x.isBroad(-1));
    }

    private static void digest() {
        Taskgraphic x = new Taskgraphic();
        int s = source(x, 2, 1, 2, -3, 4, MAX, MIN);
        int wild = 31 * MAX + MIN;
        due("digest", x.digest(s), 33 * 33 + 89 * 89 + wild * wild);
        due("digest of an empty one", x.digest(x.source(1)), 0);
        throwing("digest(2)", BOUNDS, () -> x.digest(2));
        throwing("digest(-1)", BOUNDS, () -> x.digest(-1));
    }

    private static void digestInPlace() {
        Taskgraphic x = new Taskgraphic();
        int s = source(x, 3, 1, 2, -3, 4, MAX, MIN, 1, 5);
        int t = source(x, 2, 1, 7, 1, 8, -3, 9, -3, 1, 2, 2);
        x.map(x.union(s, t), 1, 3);
        x.join(s, t, 2);
        x.group(4, 0, 4);
        x.filter(4, 10, 12);
        x.join(x.group(t, 2, 2), s, 3);
        due("nodes()", x.nodes(), 9);
        int wild = 31 * MAX + MIN;
        due("of a source", x.digestInPlace(s), 33 * 33 + 89 * 89 + wild * wild + 36 * 36);
        for (int limit : new int[] {0, 4, 1000}) {
            x.setLimit(limit);
            for (int node = 0; node < 9; node++) {
                due("of " + node, x.digestInPlace(node), x.digest(node));
            }
            // The keys are -3 and 1, with the values 13, 5 and 9, 10, 12, 13.
            due("of the join", x.digestInPlace(4), 80 * 80 + 88 * 88 + 40 * 40 + 41 * 41 + 43 * 43 + 44 * 44);
        }
        due("of an empty one", x.digestInPlace(x.source(1)), 0);
        throwing("digestInPlace(10)", BOUNDS, () -> x.digestInPlace(10));
        throwing("digestInPlace(-1)", BOUNDS, () -> x.digestInPlace(-1));
    }

    // ---- settings

    private static void setWorkers() {
        Taskgraphic x = new Taskgraphic();
        sourceOfKeys(x, 4);
        int before = 2;
        int[] ticksOf = {0, 4, 2, 2, 1};
        for (int workers = 1; workers <= 4; workers++) {
            due("setWorkers(" + workers + ")", x.setWorkers(workers), before);
            due("run(0)", x.run(0), ticksOf[workers]);
            before = workers;
        }
        for (int workers : new int[] {0, 5, MIN, MAX}) {
            throwing("setWorkers(" + workers + ")", ARGUMENT, () -> x.setWorkers(workers));
        }
        due("setWorkers(1) behind these", x.setWorkers(1), 4);
    }

    private static void setSlowness() {
        Taskgraphic x = new Taskgraphic();
        sourceOfKeys(x, 1);
        due("setSlowness(0, 9)", x.setSlowness(0, 9), 1);
        due("run(0)", x.run(0), 9);
        due("setSlowness(0, 1)", x.setSlowness(0, 1), 9);
        due("setSlowness(3, 7)", x.setSlowness(3, 7), 1);
        due("setSlowness(3, 2)", x.setSlowness(3, 2), 7);
        for (int worker : new int[] {-1, 4, MIN, MAX}) {
            throwing("setSlowness(" + worker + ", 0)", BOUNDS, () -> x.setSlowness(worker, 0));
        }
        for (int slow : new int[] {0, 10, -1, MIN, MAX}) {
            throwing("setSlowness(3, " + slow + ")", ARGUMENT, () -> x.setSlowness(3, slow));
        }
        due("setSlowness(3, 1) behind these", x.setSlowness(3, 1), 2);
        due("run(0)", x.run(0), 1);
    }

    private static void setMemory() {
        Taskgraphic x = new Taskgraphic();
        sourceOfKeys(x, 1, 1, 2, 3, 4, 5);
        due("setMemory(5)", x.setMemory(5), 20);
        due("run(0)", x.run(0), 6);
        due("setMemory(4)", x.setMemory(4), 5);
        due("run(0)", x.run(0), 7);
        due("setMemory(0)", x.setMemory(0), 4);
        due("run(0)", x.run(0), 11);
        due("setMemory(1000)", x.setMemory(1000), 0);
        for (int rows : new int[] {-1, 1001, MIN, MAX}) {
            throwing("setMemory(" + rows + ")", ARGUMENT, () -> x.setMemory(rows));
        }
        due("setMemory(1) behind these", x.setMemory(1), 1000);
    }

    private static void setLimit() {
        Taskgraphic x = new Taskgraphic();
        int s = sourceOfKeys(x, 1, 1, 2, 3, 4, 5);
        int j = x.join(s, s, 1);
        x.setRoom(20);
        x.mark(s, true);
        x.run(s);
        due("cached", cached(x), "0");
        for (int rows : new int[] {-1, 1001, MIN, MAX}) {
            throwing("setLimit(" + rows + ")", ARGUMENT, () -> x.setLimit(rows));
        }
        due("cached behind these", cached(x), "0");
        due("setLimit(4)", x.setLimit(4), 4);
        due("cached behind the same limit", cached(x), "");
        x.run(s);
        due("setLimit(1000)", x.setLimit(1000), 4);
        due("cached behind another limit", cached(x), "");
        due("broad", x.isBroad(j), true);
        due("setLimit(0)", x.setLimit(0), 1000);
        due("broad", x.isBroad(j), false);
        due("setLimit(5)", x.setLimit(5), 0);
    }

    /** Three sources of 2, 3 and 4 rows, all marked and in the cache, used in the order 1, 0, 2. */
    private static Taskgraphic withThreeCached() {
        Taskgraphic x = new Taskgraphic();
        sourceOfKeys(x, 1, 1, 2);
        sourceOfKeys(x, 1, 1, 2, 3);
        sourceOfKeys(x, 1, 1, 2, 3, 4);
        x.setRoom(9);
        for (int node : new int[] {1, 0, 2}) {
            x.mark(node, true);
            x.run(node);
        }
        due("cached", cached(x), "0 1 2");
        return x;
    }

    private static void setRoom() {
        Taskgraphic x = withThreeCached();
        due("setRoom(9)", x.setRoom(9), 0);
        due("setRoom(8)", x.setRoom(8), 1);
        due("cached", cached(x), "0 2");
        due("setRoom(6)", x.setRoom(6), 0);
        due("setRoom(5)", x.setRoom(5), 1);
        due("cached", cached(x), "2");
        due("setRoom(0)", x.setRoom(0), 1);
        due("cached", cached(x), "");
        due("setRoom(1000)", x.setRoom(1000), 0);
        x.run(0);
        for (int rows : new int[] {-1, 1001, MIN, MAX}) {
            throwing("setRoom(" + rows + ")", ARGUMENT, () -> x.setRoom(rows));
        }
        due("cached behind these", cached(x), "0");
        Taskgraphic y = withThreeCached();
        due("setRoom(3)", y.setRoom(3), 3);
        due("a run of one in the cache", useAndShrink(), "1");
        Taskgraphic z = new Taskgraphic();
        int none = z.source(1);
        z.mark(none, true);
        z.run(none);
        due("no rows in no room", z.isCached(none), true);
    }

    private static String useAndShrink() {
        Taskgraphic x = withThreeCached();
        x.run(1);
        x.setRoom(4);
        return cached(x);
    }

    private static void mark() {
        Taskgraphic x = new Taskgraphic();
        int s = sourceOfKeys(x, 1, 1);
        int m = x.map(s, 0, 0);
        x.setRoom(5);
        due("mark(0, true)", x.mark(s, true), false);
        due("mark(0, true)", x.mark(s, true), true);
        due("mark(0, false)", x.mark(s, false), true);
        due("mark(0, false)", x.mark(s, false), false);
        x.run(s);
        due("cached without a mark", cached(x), "");
        x.mark(m, true);
        due("cached before a run", cached(x), "");
        x.run(m);
        due("cached", cached(x), "1");
        x.mark(m, false);
        due("cached, mark taken away", cached(x), "1");
        throwing("mark(2, true)", BOUNDS, () -> x.mark(2, true));
        throwing("mark(-1, true)", BOUNDS, () -> x.mark(-1, true));
    }

    private static void isCached() {
        Taskgraphic x = new Taskgraphic();
        int s = sourceOfKeys(x, 2, 1, 2, 3, 4);
        int m = x.map(s, 0, 0);
        int g = x.group(m, 0, 2);
        x.mark(s, true);
        x.mark(g, true);
        x.setRoom(3);
        x.run(g);
        due("rows above the room", cached(x), "");
        x.setRoom(4);
        x.run(g);
        due("the second put there drives out the first", cached(x), "2");
        x.setRoom(8);
        x.setLimit(4);
        x.run(g);
        due("a source that tasks came to, and an output", cached(x), "0 2");
        throwing("isCached(3)", BOUNDS, () -> x.isCached(3));
        throwing("isCached(-1)", BOUNDS, () -> x.isCached(-1));
        whatWasUsedStaysLonger();
        whatLiesBehindTheCacheIsNotWorkedOut();
    }

    private static void whatWasUsedStaysLonger() {
        Taskgraphic x = withThreeCached();
        x.run(x.group(1, 0, 1));
        x.setRoom(7);
        due("read by a group", cached(x), "1 2");
        Taskgraphic y = withThreeCached();
        int wide = y.union(1, 0);
        y.run(wide);
        y.setRoom(5);
        due("of those used in one run the greater number is later", cached(y), "0 1");
        y.setRoom(3);
        due("of those used in one run the greater number is later", cached(y), "1");
        Taskgraphic z = withThreeCached();
        z.run(z.join(2, 1, 1));
        z.setRoom(7);
        due("read by a broad join", cached(z), "1 2");
    }

    private static void whatLiesBehindTheCacheIsNotWorkedOut() {
        Taskgraphic x = new Taskgraphic();
        int s = sourceOfKeys(x, 1, 1, 2);
        int m = x.map(s, 0, 0);
        int f = x.filter(m, 0, 0);
        x.setRoom(20);
        x.mark(m, true);
        x.run(f);
        x.mark(s, true);
        x.mark(f, true);
        x.run(f);
        due("cached", cached(x), "1 2");
    }

    // ---- runs

    private static void stages() {
        Taskgraphic x = new Taskgraphic();
        int s = sourceOfKeys(x, 2, 1, 2, 3, 4, 5);
        int m = x.map(s, 0, 0);
        int g = x.group(m, 0, 2);
        int h = x.group(x.map(g, 0, 1), 0, 2);
        due("of a source", x.stages(s), 1);
        due("of a map", x.stages(m), 1);
        due("of a group", x.stages(g), 2);
        due("of a group of a map of a group", x.stages(h), 3);
        x.setRoom(9);
        x.mark(m, true);
        x.run(m);
        due("of one in the cache", x.stages(m), 0);
        due("of a group of one in the cache", x.stages(g), 1);
        due("attempts of the run before", x.attempts(), 2);
        throwing("stages(5)", BOUNDS, () -> x.stages(5));
        throwing("stages(-1)", BOUNDS, () -> x.stages(-1));
    }

    private static void outputOf() {
        Taskgraphic x = new Taskgraphic();
        int s = sourceOfKeys(x, 2, 1, 2, 3, 4, 5);
        int m = x.map(s, 0, 0);
        int g = x.group(m, 0, 2);
        int j = x.join(g, s, 2);
        int k = x.join(s, s, 1);
        int u = x.union(x.map(k, 0, 1), g);
        due("join by keys", outputs(x, j), "0 1 2 3");
        due("join of the same", outputs(x, k), "0 4");
        due("union of what is needed whole", outputs(x, u), "0 1 6");
        x.setLimit(5);
        due("broad join", outputs(x, j), "0 1 3");
        due("broad join of the same", outputs(x, k), "0 4");
        due("union of a broad join and a group", outputs(x, u), "0 1 6");
        x.setRoom(100);
        x.mark(s, true);
        x.run(s);
        due("broad join, its second input in the cache", outputs(x, j), "1 3");
        due("in the cache", outputs(x, s), "");
        throwing("outputOf(0, 0)", BOUNDS, () -> x.outputOf(s, 0));
        throwing("outputOf(3, 2)", BOUNDS, () -> x.outputOf(j, 2));
        throwing("outputOf(3, -1)", BOUNDS, () -> x.outputOf(j, -1));
        throwing("outputOf(3, MAX)", BOUNDS, () -> x.outputOf(j, MAX));
        throwing("outputOf(7, 0)", BOUNDS, () -> x.outputOf(7, 0));
        throwing("outputOf(-1, 0)", BOUNDS, () -> x.outputOf(-1, 0));
    }

    private static void run() {
        Taskgraphic x = new Taskgraphic();
        int s = sourceOfKeys(x, 2, 1, 2, 3);
        int t = sourceOfKeys(x, 1, 1, 3, 3, 5, 7);
        int j = x.join(s, t, 2);
        x.setWorkers(1);
        // The shares are {2} and {1, 3}, and {} and {1, 3, 3, 5, 7}.
        due("a join by keys", x.run(j), 3 + 2 + 6 + 2 + 8);
        due("attempts", attempts(x), "0.0 w0 0-3, 0.1 w0 3-5, 1.0 w0 5-11, 2.0 w0 11-13, 2.1 w0 13-21");
        x.setLimit(5);
        due("a broad join", x.run(j), 6 + 8 + 7);
        int u = x.union(j, s);
        due("a union of it", x.run(u), 6 + 8 + 7 + 3 + 2);
        int self = x.join(t, t, 1);
        due("a broad join of the same", x.run(self), 6 + 11);
        x.setLimit(4);
        due("a join by keys of the same", x.run(self), 6 + 11);
        int f = x.filter(x.map(x.group(t, 3, 2), 0, 1), 9, 9);
        due("a filter of a map of a group", x.run(f), 6 + 1 + 6);
        x.mark(f, true);
        x.run(f);
        due("in the cache", x.run(f), 0);
        due("no attempts", x.attempts(), 0);
        int g = x.group(f, 0, 1);
        due("a group of no rows in the cache", x.run(g), 1);
        throwing("run(9)", BOUNDS, () -> x.run(9));
        throwing("run(-1)", BOUNDS, () -> x.run(-1));
        due("ticks() behind these", x.ticks(), 1);
        runOfEightPartitions();
    }

    private static void runOfEightPartitions() {
        Taskgraphic x = new Taskgraphic();
        int s = sourceOfKeys(x, 4, 1, 2, 3, 4, 5);
        int u = x.union(s, s);
        x.setWorkers(4);
        due("a width of 8", x.run(u), 5);
        due("attempts", attempts(x),
            "1.0 w0 0-3, 1.1 w1 0-2, 1.2 w2 0-2, 1.3 w3 0-2, 1.4 w1 2-5, 1.5 w2 2-4, 1.6 w3 2-4, 1.7 w0 3-5");
    }

    private static void ticks() {
        Taskgraphic x = new Taskgraphic();
        int s = sourceOfKeys(x, 1, 1, 2);
        int g = x.group(s, 0, 1);
        due("before a run", x.ticks(), 0);
        x.run(g);
        due("ticks()", x.ticks(), 6);
        x.run(s);
        due("of the latest run", x.ticks(), 3);
        throwing("run(2)", BOUNDS, () -> x.run(2));
        due("behind a run that threw", x.ticks(), 3);
        x.setRoom(2);
        x.mark(s, true);
        x.run(s);
        x.run(s);
        due("of a run without stages", x.ticks(), 0);
    }

    private static void spilled() {
        Taskgraphic x = new Taskgraphic();
        int s = sourceOfKeys(x, 2, 1, 2, 3, 4, 5);
        int g = x.group(s, 0, 1);
        x.setMemory(2);
        x.run(g);
        due("of two stages", x.spilled(), 1 + 3);
        x.setMemory(5);
        x.run(g);
        due("up to the memory", x.spilled(), 0);
        x.setMemory(0);
        slowness(x, 1, 9);
        x.run(s);
        due("attempts with a copy", x.attempts(), 3);
        due("copies are not counted", x.spilled(), 5);
        x.setRoom(5);
        x.mark(s, true);
        x.run(s);
        x.run(s);
        due("of a run without stages", x.spilled(), 0);
        Taskgraphic y = new Taskgraphic();
        int t = y.source(1);
        for (int i = 0; i < 12; i++) {
            y.put(t, 1, i);
        }
        y.run(y.join(t, t, 1));
        due("above a memory of 20", y.spilled(), 4);
        due("ticks", y.ticks(), 13 + 1 + 24 + 4);
    }

    /** A group of 0, 3, 5 and 1 rows, with its source in the cache, on workers of unlike slowness. */
    private static Taskgraphic withCopies() {
        Taskgraphic x = new Taskgraphic();
        sourceOfKeys(x, 1, 1, 5, 9, 2, 6, 10, 14, 18, 3);
        x.group(0, 0, 4);
        x.setRoom(9);
        x.mark(0, true);
        x.run(0);
        x.setWorkers(4);
        slowness(x, 4, 1, 4, 9);
        x.run(1);
        return x;
    }

    private static void attemptsOfRuns() {
        Taskgraphic x = withCopies();
        due("attempts()", x.attempts(), 6);
        // At 4 the worker 0 refuses the latest task and 1 takes it; so at 5 worker 0 sees another.
        due("attempts", attempts(x), "1.0 w0 0-4, 1.1 w1 0-4, 1.2 w2 0-10, 1.3 w3 0-13, 1.2 w1 4-10*, 1.3 w0 5-13*");
        copiesOfTheLowestPartition();
        copiesOnlyWhenHalfHaveEnded();
        copiesOnlyWhenTheyEndEarlier();
        bothWorkersAreIdleBehindACopy();
        stagesFollowOneAnother();
    }

    private static void copiesOfTheLowestPartition() {
        Taskgraphic x = new Taskgraphic();
        int s = sourceOfKeys(x, 4);
        x.setWorkers(4);
        slowness(x, 1, 9, 9, 1);
        x.run(s);
        due("two that end the latest", attempts(x),
            "0.0 w0 0-1, 0.1 w1 0-2, 0.2 w2 0-2, 0.3 w3 0-1, 0.1 w0 1-2*, 0.2 w3 1-2*");
        due("share()", x.share(), 8.0f / 8.0f);
    }

    private static void copiesOnlyWhenHalfHaveEnded() {
        Taskgraphic x = new Taskgraphic();
        int s = sourceOfKeys(x, 3);
        x.setWorkers(3);
        slowness(x, 1, 9, 3);
        x.run(s);
        due("one of three is not half", attempts(x), "0.0 w0 0-1, 0.1 w1 0-4, 0.2 w2 0-3, 0.1 w0 3-4*");
        Taskgraphic y = new Taskgraphic();
        int t = sourceOfKeys(y, 2);
        slowness(y, 1, 9);
        y.run(t);
        due("one of two is half", attempts(y), "0.0 w0 0-1, 0.1 w1 0-2, 0.1 w0 1-2*");
        Taskgraphic z = new Taskgraphic();
        int one = sourceOfKeys(z, 1);
        slowness(z, 9, 1);
        z.run(one);
        due("none of one", attempts(z), "0.0 w0 0-9");
    }

    private static void copiesOnlyWhenTheyEndEarlier() {
        Taskgraphic x = new Taskgraphic();
        int s = sourceOfKeys(x, 2);
        slowness(x, 1, 2);
        x.run(s);
        due("a copy would end at the same tick", attempts(x), "0.0 w0 0-1, 0.1 w1 0-2");
        x.setSlowness(1, 3);
        x.run(s);
        due("a copy ends earlier", attempts(x), "0.0 w0 0-1, 0.1 w1 0-2, 0.1 w0 1-2*");
    }

    private static void bothWorkersAreIdleBehindACopy() {
        Taskgraphic x = new Taskgraphic();
        int s = sourceOfKeys(x, 1, 0, 0, 0, 0, 0, 0, 0, 0, 0, 2, 2, 2);
        int g = x.group(s, 0, 4);
        x.setRoom(12);
        x.mark(s, true);
        x.run(s);
        x.setWorkers(4);
        slowness(x, 4, 1, 9, 9);
        // The tasks have the works 10, 1, 4 and 1.
        x.run(g);
        due("attempts", attempts(x),
            "1.0 w0 0-19, 1.1 w1 0-1, 1.2 w2 0-35, 1.3 w3 0-9, 1.0 w1 9-19*, 1.2 w0 19-35*");
    }

    private static void stagesFollowOneAnother() {
        Taskgraphic x = new Taskgraphic();
        int s = sourceOfKeys(x, 2, 1, 2, 3);
        int g = x.group(s, 0, 2);
        x.run(g);
        due("attempts", attempts(x), "0.0 w0 0-3, 0.1 w1 0-2, 1.0 w0 3-5, 1.1 w1 3-6");
    }

    private static void noSuchAttempt(java.util.function.IntConsumer call) {
        for (int attempt : new int[] {-1, 6, MIN, MAX}) {
            throwing("attempt " + attempt, BOUNDS, () -> call.accept(attempt));
        }
    }

    private static void nodeOf() {
        Taskgraphic x = withCopies();
        due("nodeOf(5)", x.nodeOf(5), 1);
        noSuchAttempt(x::nodeOf);
        x.setLimit(4);
        x.run(1);
        due("nodeOf(0)", x.nodeOf(0), 0);
        due("nodeOf(1)", x.nodeOf(1), 1);
        throwing("nodeOf(0) before a run", BOUNDS, () -> new Taskgraphic().nodeOf(0));
    }

    private static void partitionOf() {
        Taskgraphic x = withCopies();
        due("partitionOf(3)", x.partitionOf(3), 3);
        due("partitionOf(4)", x.partitionOf(4), 2);
        noSuchAttempt(x::partitionOf);
        throwing("partitionOf(0) before a run", BOUNDS, () -> new Taskgraphic().partitionOf(0));
    }

    private static void workerOf() {
        Taskgraphic x = withCopies();
        due("workerOf(3)", x.workerOf(3), 3);
        due("workerOf(4)", x.workerOf(4), 1);
        noSuchAttempt(x::workerOf);
        throwing("workerOf(0) before a run", BOUNDS, () -> new Taskgraphic().workerOf(0));
    }

    private static void startOf() {
        Taskgraphic x = withCopies();
        due("startOf(3)", x.startOf(3), 0);
        due("startOf(5)", x.startOf(5), 5);
        noSuchAttempt(x::startOf);
        throwing("startOf(0) before a run", BOUNDS, () -> new Taskgraphic().startOf(0));
    }

    private static void endOf() {
        Taskgraphic x = withCopies();
        due("endOf(0)", x.endOf(0), 4);
        due("endOf of a task with a copy", x.endOf(3), 13);
        due("endOf of the copy", x.endOf(5), 13);
        noSuchAttempt(x::endOf);
        throwing("endOf(0) before a run", BOUNDS, () -> new Taskgraphic().endOf(0));
    }

    private static void isCopy() {
        Taskgraphic x = withCopies();
        due("isCopy(3)", x.isCopy(3), false);
        due("isCopy(4)", x.isCopy(4), true);
        noSuchAttempt(x::isCopy);
        x.setLimit(4);
        slowness(x, 1, 1, 1, 1);
        x.run(1);
        due("isCopy(4) of a run without copies", x.isCopy(4), false);
        throwing("isCopy(0) before a run", BOUNDS, () -> new Taskgraphic().isCopy(0));
    }

    private static void share() {
        Taskgraphic x = withCopies();
        due("share()", x.share(), 45.0f / 52.0f);
        x.setWorkers(1);
        due("share() with the workers of the run", x.share(), 45.0f / 52.0f);
        x.run(1);
        due("share() of one worker", x.share(), 1.0f);
        x.run(0);
        due("share() of a run without ticks", x.share(), 0.0f);
        due("share() before a run", new Taskgraphic().share(), 0.0f);
    }

    private static void promisesOfNodes() {
        holds(1, PromiseTests::aNewObject, "A runner without nodes.");
        holds(2, PromiseTests::source, "Makes a source without rows.", "Returns its number.");
        holds(3, PromiseTests::put, "Puts a row into a source.", "Returns how many rows it has then.");
        holds(4, PromiseTests::map, "Makes a map.", "Returns its number.");
        holds(5, PromiseTests::filter, "Makes a filter.", "Returns its number.");
        holds(6, PromiseTests::union, "Makes a union.", "Returns its number.");
        holds(7, PromiseTests::group, "Makes a group.", "Returns its number.");
        holds(8, PromiseTests::join, "Makes a join.", "Returns its number.");
        holds(9, PromiseTests::nodes, "Returns how many nodes there are.");
    }

    private static void promisesOfWhatNodesHold() {
        holds(10, PromiseTests::partitions, "Returns how many partitions a node has.", "Returns 1 to 8.");
        holds(11, PromiseTests::rowsIn, "Returns how many rows a partition has.", "Returns how many.");
        holds(12, PromiseTests::rows, "Returns how many rows a node has.", "Returns how many.");
        holds(13, PromiseTests::keyAt, "Returns the key of a row.", "Returns the key.");
        holds(14, PromiseTests::valueAt, "Returns the value of a row.", "Returns the value.");
        holds(15, PromiseTests::isBroad, "Tells whether a join is broad.", "Returns whether it is.");
        holds(16, PromiseTests::digest,
            "Returns the digest of a node: the sum, over all rows, of the square of 31 times the "
                + "key plus the value.",
            "Returns the sum.");
        holds(17, PromiseTests::digestInPlace,
            "Returns the same, found in one place: rows in one row without any partitions.",
            "Returns the sum.");
    }

    private static void promisesOfSettings() {
        holds(18, PromiseTests::setWorkers, "Sets the number of workers.", "Returns the number before.");
        holds(19, PromiseTests::setSlowness, "Sets the slowness of a worker.", "Returns the slowness before.");
        holds(20, PromiseTests::setMemory, "Sets the memory.", "Returns the memory before.");
        holds(21, PromiseTests::setLimit,
            "Sets the limit up to which joins are broad; the cache is emptied.",
            "Returns the limit before.");
        holds(22, PromiseTests::setRoom,
            "Sets the room of the cache. Until its rows have room, the nodes leave it that were "
                + "used the longest time ago.",
            "Returns how many nodes leave.");
        holds(23, PromiseTests::mark,
            "Marks a node for the cache, or takes the mark away; what is in the cache stays there.",
            "Returns whether it was.");
        holds(24, PromiseTests::isCached, "Tells whether a node is in the cache.", "Returns whether it is.");
    }

    private static void promisesOfRuns() {
        holds(25, PromiseTests::stages,
            "Returns how many stages it takes to work a node out now.",
            "Returns how many; 0 if it is in the cache.");
        holds(26, PromiseTests::outputOf,
            "Returns the output of one of the stages that it takes to work a node out now.",
            "Returns the output.");
        holds(27, PromiseTests::run,
            "Works a node out.",
            "Returns the tick at which the last stage has ended; 0 if there is no stage.");
        holds(28, PromiseTests::ticks,
            "Returns the tick at which the latest run has ended; 0 if there was none.");
        holds(29, PromiseTests::spilled,
            "Returns how many rows were spilled in the latest run, copies not counted.");
        holds(30, PromiseTests::attemptsOfRuns,
            "Returns how many attempts there were in the latest run: tasks, and copies of tasks. "
                + "They are numbered from 0 as they were taken.");
        holds(31, PromiseTests::nodeOf,
            "Returns the output of the stage of an attempt of the latest run.",
            "Returns the node.");
        holds(32, PromiseTests::partitionOf,
            "Returns the partition of an attempt of the latest run.",
            "Returns the partition.");
        holds(33, PromiseTests::workerOf,
            "Returns the worker of an attempt of the latest run.",
            "Returns the worker.");
        holds(34, PromiseTests::startOf,
            "Returns the tick at which an attempt of the latest run was taken.",
            "Returns the tick.");
        holds(35, PromiseTests::endOf,
            "Returns the tick at which the task of an attempt of the latest run ended.",
            "Returns the tick.");
        holds(36, PromiseTests::isCopy,
            "Tells whether an attempt of the latest run was a copy.",
            "Returns whether it was.");
        holds(37, PromiseTests::share,
            "Returns the share of time for which the workers of the latest run had attempts: the "
                + "sum of the ticks of all attempts, as a float, divided by the ticks of the run times "
                + "the number of workers that it had, as a float.",
            "Returns the share; 0.0 if the run took no ticks, or there was none.");
    }

    public static void main(String[] args) {
        promisesOfNodes();
        promisesOfWhatNodesHold();
        promisesOfSettings();
        promisesOfRuns();
        demandTestsOfPurposes();
        end("all promises hold");
    }
}
