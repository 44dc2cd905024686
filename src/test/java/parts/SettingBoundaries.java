import java.util.List;

/** The boundary cases of the promises 18 to 24: settings, and the cache. */
final class SettingBoundaries extends Sentences {
    private static final String ROWS = "rows: 0 to 1000";
    private static final String ROWS_OUT = "Throws IllegalArgumentException if rows is out of range";
    private static final String EMPTIED =
        "When a row is put into a source, or the limit is set, the cache is emptied.";

    static void all() {
        setWorkers();
        setSlowness();
        setMemory();
        setLimit();
        setRoom();
        mark();
        isCached();
        whatIsPutIntoTheCache();
        whatLeavesTheCache();
        whatWasUsed();
    }

    /** Sources of so many rows, all marked, and worked out one after the other. */
    private static Taskgraphic afterRunsOf(int room, int... sizes) {
        Taskgraphic x = new Taskgraphic();
        for (int size : sizes) {
            x.mark(sourceOf(x, 1, size), true);
        }
        x.setRoom(room);
        for (int node = 0; node < sizes.length; node++) {
            x.run(node);
        }
        return x;
    }

    private static String cachedOf(int room, int... sizes) {
        return cached(afterRunsOf(room, sizes));
    }

    // ---- 18

    private static void setWorkers() {
        holds(18, "workers: 1 to 4", () -> {
            Taskgraphic x = new Taskgraphic();
            x.source(4);
            int[] ticks = {0, 4, 2, 2, 1};
            for (int workers = 1; workers <= 4; workers++) {
                due("setWorkers(" + workers + ")", x.setWorkers(workers), workers == 1 ? 2 : workers - 1);
                due("run(0) of " + workers, x.run(0), ticks[workers]);
            }
            due("setWorkers(1)", x.setWorkers(1), 4);
        });
        holds(18, "There are up to 4 workers, 0 to 3, at first 2;", () -> {
            Taskgraphic x = new Taskgraphic();
            x.source(4);
            x.run(0);
            due("attempts at first", attempts(x), "0.0 w0 0-1, 0.1 w1 0-1, 0.2 w0 1-2, 0.3 w1 1-2");
            due("setWorkers(4)", x.setWorkers(4), 2);
            x.run(0);
            due("attempts of 4", attempts(x), "0.0 w0 0-1, 0.1 w1 0-1, 0.2 w2 0-1, 0.3 w3 0-1");
        });
        holds(18, "Throws IllegalArgumentException if workers is out of range", () -> {
            Taskgraphic x = new Taskgraphic();
            outOfRange(x::setWorkers, 0, 5, -1, MIN, MAX);
        });
        holds(18, "IllegalArgumentException: another argument is out of its range.", () -> {
            Taskgraphic x = new Taskgraphic();
            outOfRange(x::source, 5);
            outOfRange(x::setMemory, 1001);
            outOfRange(slowness -> x.setSlowness(3, slowness), 10);
        });
        holds(18, NOTHING, () -> changeNothing(Testing::busy, List.of(x -> x.setWorkers(0), x -> x.setWorkers(5))));
    }

    // ---- 19

    private static void setSlowness() {
        holds(19, "worker: 0 to 3, also one that does not work now", () -> {
            Taskgraphic x = new Taskgraphic();
            x.source(4);
            x.setWorkers(1);
            for (int worker = 0; worker <= 3; worker++) {
                due("setSlowness(" + worker + ", " + (worker + 2) + ")", x.setSlowness(worker, worker + 2), 1);
            }
            x.setWorkers(4);
            x.run(0);
            due("attempts", attempts(x), "0.0 w0 0-2, 0.1 w1 0-3, 0.2 w2 0-4, 0.3 w3 0-5");
        });
        holds(19, "slowness: 1 to 9", () -> {
            Taskgraphic x = new Taskgraphic();
            x.source(1);
            due("setSlowness(0, 9)", x.setSlowness(0, 9), 1);
            due("run(0)", x.run(0), 9);
            due("setSlowness(0, 1)", x.setSlowness(0, 1), 9);
            due("run(0)", x.run(0), 1);
            due("setSlowness(3, 9)", x.setSlowness(3, 9), 1);
            due("setSlowness(3, 1)", x.setSlowness(3, 1), 9);
        });
        holds(19, "each has a slowness, 1 at first.", () -> {
            Taskgraphic x = new Taskgraphic();
            for (int worker = 3; worker >= 0; worker--) {
                due("setSlowness(" + worker + ", 1)", x.setSlowness(worker, 1), 1);
            }
        });
        holds(19, "Throws IndexOutOfBoundsException if there is no such worker", () -> {
            Taskgraphic x = new Taskgraphic();
            x.setWorkers(4);
            noSuch(worker -> x.setSlowness(worker, 1), -1, 4, MIN, MAX);
        });
        holds(19, "Throws IllegalArgumentException if slowness is out of range", () -> {
            Taskgraphic x = new Taskgraphic();
            outOfRange(slowness -> x.setSlowness(0, slowness), 0, 10, -1, MIN, MAX);
            outOfRange(slowness -> x.setSlowness(3, slowness), 0, 10);
        });
        holds(19, SEVERAL, () -> {
            Taskgraphic x = new Taskgraphic();
            noSuch(worker -> x.setSlowness(worker, 0), -1, 4, MIN, MAX);
            noSuch(worker -> x.setSlowness(worker, 10), -1, 4);
        });
        holds(19, NOTHING, () -> changeNothing(Testing::busy, List.of(x -> x.setSlowness(-1, 5),
            x -> x.setSlowness(4, 5), x -> x.setSlowness(0, 0), x -> x.setSlowness(3, 10))));
    }

    // ---- 20, 21

    private static void setMemory() {
        holds(20, ROWS, () -> {
            Taskgraphic x = new Taskgraphic();
            sourceOf(x, 1, 12);
            due("setMemory(0)", x.setMemory(0), 20);
            due("run(0), all 12 above it", x.run(0), 25);
            due("setMemory(1000)", x.setMemory(1000), 0);
            due("run(0), none above it", x.run(0), 13);
            due("setMemory(1)", x.setMemory(1), 1000);
        });
        holds(20, "1 more for each of these above the memory", () -> {
            Taskgraphic x = new Taskgraphic();
            sourceOf(x, 1, 5);
            int[] ticks = {11, 10, 9, 8, 7, 6, 6};
            for (int memory = 0; memory <= 6; memory++) {
                x.setMemory(memory);
                due("run(0) with a memory of " + memory, x.run(0), ticks[memory]);
                due("spilled()", x.spilled(), Math.max(0, 5 - memory));
            }
        });
        holds(20, ROWS_OUT, () -> outOfRange(new Taskgraphic()::setMemory, -1, 1001, MIN, MAX));
        holds(20, NOTHING, () -> changeNothing(Testing::busy, List.of(x -> x.setMemory(-1), x -> x.setMemory(1001))));
    }

    private static void setLimit() {
        holds(21, ROWS, () -> {
            Taskgraphic x = new Taskgraphic();
            sourceOf(x, 1, 1);
            int join = x.join(0, 0, 1);
            due("setLimit(0)", x.setLimit(0), 4);
            due("broad", x.isBroad(join), false);
            due("setLimit(1000)", x.setLimit(1000), 0);
            due("broad", x.isBroad(join), true);
            due("setLimit(1)", x.setLimit(1), 1000);
        });
        holds(21, ROWS_OUT, () -> outOfRange(new Taskgraphic()::setLimit, -1, 1001, MIN, MAX));
        holds(21, NOTHING, () -> changeNothing(Testing::busy, List.of(x -> x.setLimit(-1), x -> x.setLimit(1001))));
        holds(21, EMPTIED, () -> {
            Taskgraphic x = afterRunsOf(5, 2, 3, 0);
            due("cached", cached(x), "0 1 2");
            throwing("setLimit(1001)", ARGUMENT, () -> x.setLimit(1001));
            due("behind one that throws", cached(x), "0 1 2");
            due("setLimit(4), the same", x.setLimit(4), 4);
            due("behind the same limit", cached(x), "");
            due("stages(0)", x.stages(0), 1);
            x.run(0);
            x.run(1);
            due("the room is as it was", cached(x), "0 1");
        });
        holds(3, EMPTIED, () -> {
            Taskgraphic x = afterRunsOf(5, 2, 3, 0);
            throwing("put into no node", BOUNDS, () -> x.put(3, 1, 1));
            due("behind one that throws", cached(x), "0 1 2");
            x.put(2, 1, 1);
            due("behind a put", cached(x), "");
            x.run(2);
            x.run(0);
            due("the marks are as they were", cached(x), "0 2");
            x.source(1);
            due("behind a source that is made", cached(x), "0 2");
            Taskgraphic full = withAFullSource();
            throwing("a 13th row", STATE, () -> full.put(0, 1, 1));
            due("behind a 13th row", cached(full), "0");
        });
    }

    // ---- 22

    private static void setRoom() {
        holds(22, ROWS, () -> {
            Taskgraphic x = afterRunsOf(1000, 12, 12);
            due("cached", cached(x), "0 1");
            due("setRoom(0)", x.setRoom(0), 2);
            due("cached", cached(x), "");
            due("setRoom(1000)", x.setRoom(1000), 0);
            x.run(0);
            due("cached", cached(x), "0");
        });
        holds(22, "Until its rows have room, the nodes leave it that were used the longest time ago.", () -> {
            Taskgraphic x = afterRunsOf(20, 4, 2, 3);
            due("setRoom(9), just enough", x.setRoom(9), 0);
            due("setRoom(8), a row too little", x.setRoom(8), 1);
            due("cached", cached(x), "1 2");
            due("setRoom(5), just enough", x.setRoom(5), 0);
            due("setRoom(4), a row too little", x.setRoom(4), 1);
            due("cached", cached(x), "2");
            Taskgraphic y = afterRunsOf(20, 0, 2, 0);
            due("setRoom(1)", y.setRoom(1), 2);
            due("one without rows, used before", cached(y), "2");
            due("setRoom(0)", y.setRoom(0), 0);
            due("one without rows, in no room", cached(y), "2");
        });
        holds(22, "Returns how many nodes leave.", () -> {
            due("of an empty cache", new Taskgraphic().setRoom(0), 0);
            due("all", afterRunsOf(20, 4, 2, 3).setRoom(2), 3);
            due("two", afterRunsOf(20, 4, 2, 3).setRoom(3), 2);
            due("one", afterRunsOf(20, 4, 2, 3).setRoom(5), 1);
            due("none", afterRunsOf(20, 4, 2, 3).setRoom(1000), 0);
            Taskgraphic most = new Taskgraphic();
            for (int node = 0; node < 14; node++) {
                most.mark(sourceOf(most, 1, 1), true);
            }
            most.setRoom(14);
            for (int node = 0; node < 14; node++) {
                most.run(node);
            }
            due("of 14, a row too little", most.setRoom(13), 1);
            due("of 13, all", most.setRoom(0), 13);
        });
        holds(22, ROWS_OUT, () -> outOfRange(afterRunsOf(5, 5)::setRoom, -1, 1001, MIN, MAX));
        holds(22, NOTHING, () -> {
            changeNothing(Testing::busy, List.of(x -> x.setRoom(-1), x -> x.setRoom(1001)));
            Taskgraphic x = new Taskgraphic();
            x.mark(sourceOf(x, 1, 1), true);
            throwing("setRoom(1001)", ARGUMENT, () -> x.setRoom(1001));
            x.run(0);
            due("no room behind one that throws", cached(x), "");
        });
    }

    // ---- 23

    private static void mark() {
        holds(23, "Returns whether it was.", () -> {
            Taskgraphic x = new Taskgraphic();
            x.source(1);
            due("mark(0, false), the first", x.mark(0, false), false);
            due("mark(0, true)", x.mark(0, true), false);
            due("mark(0, true) again", x.mark(0, true), true);
            due("mark(0, false)", x.mark(0, false), true);
            due("mark(0, false) again", x.mark(0, false), false);
            Taskgraphic full = with14Nodes();
            full.mark(13, true);
            due("mark(12, true), of another node", full.mark(12, true), false);
            due("mark(13, true) of 14", full.mark(13, true), true);
        });
        holds(23, "what is in the cache stays there.", () -> {
            Taskgraphic x = afterRunsOf(5, 2, 3);
            x.mark(0, false);
            due("cached", cached(x), "0 1");
            x.run(0);
            due("cached behind a run of it", cached(x), "0 1");
            x.setRoom(4);
            due("cached when the other one had to leave", cached(x), "0");
            x.run(1);
            due("cached when it had to leave", cached(x), "1");
            x.setRoom(5);
            x.run(0);
            due("it does not come back", cached(x), "1");
        });
        holds(23, NO_NODE, () -> {
            noSuchNode(0, node -> new Taskgraphic().mark(node, true));
            noSuchNode(8, node -> busy().mark(node, false));
            noSuchNode(14, node -> with14Nodes().mark(node, true));
        });
        holds(23, NOTHING, () -> changeNothing(Testing::busy,
            List.of(x -> x.mark(-1, true), x -> x.mark(8, true), x -> x.mark(-1, false), x -> x.mark(14, false))));
    }

    // ---- 24

    private static void isCached() {
        holds(24, "A node is in the cache or not.", () -> {
            Taskgraphic x = new Taskgraphic();
            x.source(1);
            due("isCached(0) at first", x.isCached(0), false);
            x.mark(0, true);
            due("isCached(0) before a run", x.isCached(0), false);
            x.run(0);
            due("isCached(0), no rows in no room", x.isCached(0), true);
        });
        holds(24, NO_NODE, () -> {
            noSuchNode(0, new Taskgraphic()::isCached);
            noSuchNode(8, busy()::isCached);
            noSuchNode(14, with14Nodes()::isCached);
        });
        holds(24, NOTHING, () -> changeNothing(Testing::busy, List.of(x -> x.isCached(-1), x -> x.isCached(8))));
        holds(24, "The cache has room for some rows, 0 at first.", () -> {
            Taskgraphic x = new Taskgraphic();
            x.mark(sourceOf(x, 1, 1), true);
            x.run(0);
            due("a row in no room", cached(x), "");
            x.setRoom(1);
            x.run(0);
            due("a row in room for 1", cached(x), "0");
        });
    }

    private static void whatIsPutIntoTheCache() {
        holds(24, "if the room is enough for its rows at all;", () -> {
            due("just enough", cachedOf(3, 3), "0");
            due("a row too little", cachedOf(2, 3), "");
            due("no rows in no room", cachedOf(0, 0), "0");
            due("a row too little, and one is there", cachedOf(3, 3, 4), "0");
            due("just enough, and one is there", cachedOf(4, 3, 4), "1");
            due("a row too little, and the room is full", cachedOf(3, 1, 2, 4), "0 1");
        });
        holds(24, "Behind a run, each node that is marked, was worked out in it"
            + " (as an output, or as a node to which tasks came), and is not in the cache, is put there", () -> {
                Taskgraphic x = new Taskgraphic();
                sourceOf(x, 2, 2);
                x.map(0, 0, 1);
                x.filter(1, 0, 0);
                x.group(2, 0, 2);
                x.source(1);
                x.union(3, 3);
                for (int node = 0; node < 6; node++) {
                    x.mark(node, node != 1);
                }
                x.setRoom(1000);
                x.run(3);
                due("a source below an output, two outputs, and no other", cached(x), "0 2 3");
                x.run(5);
                due("an output", cached(x), "0 2 3 5");
                x.mark(1, true);
                x.run(3);
                due("what lies behind one in the cache", cached(x), "0 2 3 5");
                x.run(1);
                due("one that is marked later", cached(x), "0 1 2 3 5");
                Taskgraphic y = new Taskgraphic();
                y.mark(y.source(1), true);
                y.mark(y.source(1), true);
                y.run(1);
                due("of two sources, the one that was worked out", cached(y), "1");
            });
        holds(24, "(The output itself is not in the cache.)", () -> {
            Taskgraphic x = new Taskgraphic();
            sourceOf(x, 2, 3);
            x.group(0, 0, 1);
            x.setRoom(4);
            x.mark(0, true);
            due("run(1)", x.run(1), 3 + 4);
            due("cached behind the run", cached(x), "0");
            due("run(1) again", x.run(1), 4);
        });
        holds(24, "is put there by rising numbers", () -> {
            Taskgraphic x = new Taskgraphic();
            sourceOf(x, 1, 4);
            x.group(x.map(0, 3, 2), 0, 1);
            x.mark(0, true);
            x.mark(2, true);
            x.setRoom(5);
            x.run(2);
            due("a row too little for both", cached(x), "2");
            x.setLimit(4);
            x.setRoom(6);
            x.run(2);
            due("just enough for both", cached(x), "0 2");
            x.setRoom(5);
            due("the lesser one is the older one", cached(x), "2");
        });
    }

    private static void whatLeavesTheCache() {
        holds(24, "until there is room for them, the nodes leave that were used the longest time ago", () -> {
            due("just enough for two", cachedOf(5, 2, 3), "0 1");
            due("a row too little for two", cachedOf(4, 2, 3), "1");
            due("just enough for three", cachedOf(6, 2, 3, 1), "0 1 2");
            due("a row too little for three", cachedOf(5, 2, 3, 1), "1 2");
            due("just enough behind one that leaves", cachedOf(7, 2, 3, 4), "1 2");
            due("a row too little behind one that leaves", cachedOf(6, 2, 3, 4), "2");
            due("no rows in a full room", cachedOf(2, 2, 0), "0 1");
            due("one without rows leaves in its turn", cachedOf(2, 0, 2, 1), "2");
            due("one without rows has room", cachedOf(3, 0, 2, 1), "0 1 2");
        });
        holds(24, "perhaps one that was put there just before.", () -> {
            due("of 4 and 4 rows, room for 4", cachedBehindARunOfThree(4), "1 2");
            due("of 4 and 4 rows, room for 7", cachedBehindARunOfThree(7), "1 2");
            due("of 4, 4 and 0 rows, room for 8", cachedBehindARunOfThree(8), "0 1 2");
            due("room for 3", cachedBehindARunOfThree(3), "2");
        });
    }

    /** A source of 4 rows, a map of it, and a filter that leaves no row, all of them marked. */
    private static String cachedBehindARunOfThree(int room) {
        Taskgraphic x = new Taskgraphic();
        sourceOf(x, 1, 4);
        x.filter(x.map(0, 0, 1), 0, 0);
        for (int node = 0; node < 3; node++) {
            x.mark(node, true);
        }
        x.setRoom(room);
        x.run(2);
        return cached(x);
    }

    private static void whatWasUsed() {
        holds(24, "A node in the cache is used by a run if a task reads it, or if it is the node that is to be worked out;", () -> {
            Taskgraphic x = afterRunsOf(9, 4, 2, 3);
            x.run(0);
            x.setRoom(8);
            due("the node that is to be worked out", cached(x), "0 2");
            Taskgraphic y = afterRunsOf(9, 4, 2, 3);
            y.run(y.group(0, 0, 1));
            y.setRoom(8);
            due("read by a group", cached(y), "0 2");
            Taskgraphic z = afterRunsOf(9, 4, 2, 3);
            z.stages(z.group(0, 0, 1));
            z.outputOf(3, 0);
            z.rows(0);
            z.mark(0, true);
            z.setRoom(8);
            due("used by no run", cached(z), "1 2");
            Taskgraphic asked = afterRunsOf(9, 4, 2, 3);
            asked.stages(asked.group(0, 0, 1));
            asked.run(1);
            asked.setRoom(8);
            due("asked for stages before a run", cached(asked), "1 2");
            Taskgraphic none = afterRunsOf(2, 0, 2);
            none.run(none.map(0, 0, 1));
            none.setRoom(1);
            due("read, without rows", cached(none), "0");
        });
        holds(24, "behind the run those that were used by it are the latest ones", () -> {
            Taskgraphic x = afterRunsOf(9, 4, 2, 3);
            x.run(x.join(0, 1, 1));
            due("setRoom(8)", x.setRoom(8), 1);
            due("a broad join of 0 and 1", cached(x), "0 1");
            Taskgraphic y = afterRunsOf(9, 4, 2, 3);
            y.run(y.union(1, 1));
            y.setRoom(5);
            due("a union of 1, room for 5", cached(y), "1 2");
            y.setRoom(4);
            due("a union of 1, room for 4", cached(y), "1");
            Taskgraphic z = afterRunsOf(9, 4, 2, 3);
            z.run(1);
            z.run(0);
            z.setRoom(6);
            due("1 and then 0, room for 6", cached(z), "0 1");
            z.setRoom(5);
            due("1 and then 0, room for 5", cached(z), "0");
        });
        holds(24, "of them a greater number later than a lesser one", () -> {
            Taskgraphic x = afterRunsOf(9, 4, 2, 3);
            x.run(x.union(1, 0));
            x.setRoom(6);
            due("cached, room for 6", cached(x), "0 1");
            x.setRoom(5);
            due("cached, room for 5", cached(x), "1");
        });
        holds(24, "and the nodes that are put there then come behind these, in their order.", () -> {
            Taskgraphic x = new Taskgraphic();
            sourceOf(x, 1, 2);
            sourceOf(x, 1, 3);
            x.setRoom(10);
            x.mark(1, true);
            x.run(1);
            x.mark(0, true);
            x.run(x.union(0, 1));
            due("cached", cached(x), "0 1");
            x.setRoom(4);
            due("1 was used, and 0 put there then", cached(x), "0");
            Taskgraphic y = new Taskgraphic();
            sourceOf(y, 1, 2);
            sourceOf(y, 1, 3);
            y.setRoom(10);
            y.mark(0, true);
            y.mark(1, true);
            y.run(y.union(1, 0));
            y.setRoom(4);
            due("0 and 1 were put there", cached(y), "1");
        });
    }
}
