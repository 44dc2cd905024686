import java.util.List;
import java.util.function.Consumer;
import java.util.function.Supplier;

/** What the tests have in common: answers and exceptions that are due, and what an object shows. */
abstract class Testing {
    static final Class<?> BOUNDS = IndexOutOfBoundsException.class;
    static final Class<?> ARGUMENT = IllegalArgumentException.class;
    static final Class<?> STATE = IllegalStateException.class;

    static final int MIN = Integer.MIN_VALUE;
    static final int MAX = Integer.MAX_VALUE;

    /** What is tested just now: it stands before every fault that is told. */
    static String where = "";
    static int wrong;

    private static void fault(String text) {
        wrong++;
        System.out.println(where + ": " + text);
    }

    static void due(String call, Object got, Object want) {
        if (!want.equals(got)) {
            fault(call + " answered " + got + ", due is " + want);
        }
    }

    static void throwing(String call, Class<?> want, Runnable body) {
        Object got = "nothing";
        try {
            body.run();
        } catch (RuntimeException e) {
            got = e.getClass();
        }
        if (got != want) {
            fault(call + " threw " + got + ", due is " + want);
        }
    }

    /** Runs a test; an exception that comes out of it is a fault too. */
    static void testing(String what, Runnable test) {
        where = what;
        try {
            test.run();
        } catch (RuntimeException e) {
            fault("a call threw " + e);
        }
    }

    static void end(String allRight) {
        System.out.println(wrong == 0 ? allRight : wrong + " answers are not as due");
        if (wrong != 0) {
            System.exit(1);
        }
    }

    // ---- objects

    /** Makes a source; the rows are keys and values in turn. */
    static int source(Taskgraphic x, int partitions, int... rows) {
        int node = x.source(partitions);
        for (int i = 0; i + 1 < rows.length; i += 2) {
            x.put(node, rows[i], rows[i + 1]);
        }
        return node;
    }

    static int sourceOfKeys(Taskgraphic x, int partitions, int... keys) {
        int node = x.source(partitions);
        for (int key : keys) {
            x.put(node, key, 0);
        }
        return node;
    }

    /** Makes a source of so many rows with the keys 0, 1 and so on. */
    static int sourceOf(Taskgraphic x, int partitions, int rows) {
        int node = x.source(partitions);
        for (int key = 0; key < rows; key++) {
            x.put(node, key, 0);
        }
        return node;
    }

    static Taskgraphic with14Nodes() {
        Taskgraphic x = new Taskgraphic();
        for (int i = 0; i < 14; i++) {
            x.source(1);
        }
        return x;
    }

    static void slowness(Taskgraphic x, int... each) {
        for (int worker = 0; worker < each.length; worker++) {
            x.setSlowness(worker, each[worker]);
        }
    }

    // ---- what an object shows

    /** What a node holds: 0:10 1:5|2:7 are two partitions, of two rows and one. */
    static String held(Taskgraphic x, int node) {
        StringBuilder all = new StringBuilder();
        int parts = x.partitions(node);
        for (int part = 0; part < parts; part++) {
            all.append(part == 0 ? "" : "|");
            int rows = x.rowsIn(node, part);
            for (int place = 0; place < rows; place++) {
                all.append(place == 0 ? "" : " ");
                all.append(x.keyAt(node, part, place)).append(':').append(x.valueAt(node, part, place));
            }
        }
        return all.toString();
    }

    static String outputs(Taskgraphic x, int node) {
        StringBuilder all = new StringBuilder();
        int stages = x.stages(node);
        for (int stage = 0; stage < stages; stage++) {
            all.append(stage == 0 ? "" : " ").append(x.outputOf(node, stage));
        }
        return all.toString();
    }

    /** The attempts of the latest run: node.partition worker start-end, with a star at a copy. */
    static String attempts(Taskgraphic x) {
        StringBuilder all = new StringBuilder();
        int attempts = x.attempts();
        for (int a = 0; a < attempts; a++) {
            all.append(a == 0 ? "" : ", ").append(x.nodeOf(a)).append('.').append(x.partitionOf(a));
            all.append(" w").append(x.workerOf(a)).append(' ').append(x.startOf(a)).append('-').append(x.endOf(a));
            all.append(x.isCopy(a) ? "*" : "");
        }
        return all.toString();
    }

    static String cached(Taskgraphic x) {
        StringBuilder all = new StringBuilder();
        int nodes = x.nodes();
        for (int node = 0; node < nodes; node++) {
            all.append(x.isCached(node) ? (all.length() == 0 ? "" : " ") + node : "");
        }
        return all.toString();
    }

    /** All that an object of few nodes tells of itself; it is of no use for more behind this. */
    static String everything(Taskgraphic x) {
        StringBuilder all = new StringBuilder();
        int nodes = x.nodes();
        for (int node = 0; node < nodes; node++) {
            all.append("node ").append(node).append(" holds ").append(held(x, node));
            all.append(", stages ").append(outputs(x, node)).append(", ").append(broad(x, node));
            all.append(", marked ").append(x.mark(node, true)).append('\n');
        }
        all.append("latest run ").append(attempts(x)).append(", ticks ").append(x.ticks());
        all.append(", spilled ").append(x.spilled()).append(", share ").append(x.share()).append('\n');
        all.append("workers ").append(x.setWorkers(1)).append(", slowness");
        for (int worker = 0; worker < 4; worker++) {
            all.append(' ').append(x.setSlowness(worker, 1));
        }
        all.append(", memory ").append(x.setMemory(0)).append(", cached");
        for (int room = 9; room >= 0; room--) {
            all.append(' ').append(cached(x)).append(", behind ").append(x.setRoom(room));
        }
        return all.append(", limit ").append(x.setLimit(0)).toString();
    }

    private static String broad(Taskgraphic x, int node) {
        try {
            return x.isBroad(node) ? "broad" : "not broad";
        } catch (IllegalStateException e) {
            return "no join";
        }
    }

    /**
     * An object with nodes of each kind, two of them marked and in the cache, no setting as at first,
     * and a latest run with a copy. Its node 7 has a bound of 288 and a width of 8.
     */
    static Taskgraphic busy() {
        Taskgraphic x = new Taskgraphic();
        source(x, 2, 1, 10, 2, 20, -3, 30, 1, 40, 5, 50);
        source(x, 1, 1, 1, 5, 2, 7, 3, 8, 4);
        x.map(0, 0, 1);
        x.filter(1, 2, 3);
        x.union(2, 3);
        x.group(4, 0, 3);
        x.join(0, 1, 4);
        x.union(6, 6);
        x.setWorkers(3);
        slowness(x, 1, 5, 2, 7);
        x.setMemory(2);
        x.setLimit(3);
        x.setRoom(9);
        x.mark(1, true);
        x.mark(3, true);
        x.run(3);
        x.run(1);
        x.run(5);
        return x;
    }

    /** An object whose node 0 has 12 rows, and is in the cache. */
    static Taskgraphic withAFullSource() {
        Taskgraphic x = new Taskgraphic();
        sourceOf(x, 1, 12);
        x.setRoom(12);
        x.mark(0, true);
        x.run(0);
        return x;
    }

    /** Each of the calls throws, and leaves an object as one is that never had it. */
    static void changeNothing(Supplier<Taskgraphic> making, List<Consumer<Taskgraphic>> calls) {
        String untouched = everything(making.get());
        for (int i = 0; i < calls.size(); i++) {
            Taskgraphic x = making.get();
            boolean threw = false;
            try {
                calls.get(i).accept(x);
            } catch (RuntimeException e) {
                threw = true;
            }
            due("whether call " + i + " throws", threw, true);
            due("everything behind call " + i, everything(x), untouched);
        }
    }
}
