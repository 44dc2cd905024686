import java.util.ArrayList;
import java.util.Arrays;
import java.util.List;
import java.util.Random;
import java.util.TreeMap;
import java.util.TreeSet;

/**
 * Long runs of calls, each answered by the class and by a model of the document that shares nothing
 * with it: the model keeps no rows but those of sources, reckons everything anew by recursion, and
 * looks at every single tick of a stage.
 */
public final class ModelRuns {
    private static final int CALLS = 512;
    private static final int RUNS_OF_EACH_STYLE = 250;

    private static final String BOUNDS = "IndexOutOfBoundsException";
    private static final String ARGUMENT = "IllegalArgumentException";
    private static final String STATE = "IllegalStateException";

    /** What the model throws; the name of the exception that the class should throw. */
    private static final class Due extends RuntimeException {
        private static final long serialVersionUID = 1L;

        Due(String name) {
            super(name, null, false, false);
        }
    }

    private static void demand(boolean holds, String otherwise) {
        if (!holds) {
            throw new Due(otherwise);
        }
    }

    private record Row(int key, int value) {
    }

    private record Attempt(int node, int part, int worker, int start, boolean copy) {
    }

    private static final class Made {
        String kind;
        int[] inputs = {};
        int[] told = {};
        int bound;
        int width;
        boolean marked;
        List<Row> put = new ArrayList<>();
    }

    private static final class Model {
        private final List<Made> nodes = new ArrayList<>();
        private int workers = 2;
        private final int[] slowness = {1, 1, 1, 1};
        private int memory = 20;
        private int limit = 4;
        private int room = 0;
        private List<Integer> cache = new ArrayList<>();

        private final TreeSet<Integer> outputs = new TreeSet<>();
        private final TreeSet<Integer> came = new TreeSet<>();
        private final TreeSet<Integer> used = new TreeSet<>();

        private int ticks;
        private int spilled;
        private int workersThen;
        private List<Attempt> attempts = new ArrayList<>();
        private List<Integer> ends = new ArrayList<>();

        // ---- what nodes hold

        private static int share(int key, int parts) {
            return (int) (((long) key % parts + parts) % parts);
        }

        private List<List<Row>> empty(int parts) {
            List<List<Row>> all = new ArrayList<>();
            for (int i = 0; i < parts; i++) {
                all.add(new ArrayList<>());
            }
            return all;
        }

        private static List<Row> flat(List<List<Row>> parts) {
            List<Row> all = new ArrayList<>();
            parts.forEach(all::addAll);
            return all;
        }

        private boolean broad(int n) {
            return flat(parts(nodes.get(n).inputs[1])).size() <= limit;
        }

        private static Row mapped(Row r, int how, int c) {
            return switch (how) {
                case 0 -> new Row(r.key, r.value + c);
                case 1 -> new Row(r.key, r.value * c);
                case 2 -> new Row(r.key + c, r.value);
                case 3 -> new Row(share(r.key, c), r.value);
                default -> new Row(r.value, r.key);
            };
        }

        private static List<Row> grouped(List<Row> rows, int how) {
            TreeMap<Integer, List<Integer>> values = new TreeMap<>();
            for (Row r : rows) {
                values.computeIfAbsent(r.key, k -> new ArrayList<>()).add(r.value);
            }
            List<Row> all = new ArrayList<>();
            values.forEach((key, list) -> all.add(new Row(key, switch (how) {
                case 0 -> list.stream().mapToInt(v -> v).sum();
                case 1 -> list.stream().mapToInt(v -> v).min().getAsInt();
                case 2 -> list.stream().mapToInt(v -> v).max().getAsInt();
                default -> list.size();
            })));
            return all;
        }

        private List<List<Row>> parts(int n) {
            Made m = nodes.get(n);
            switch (m.kind) {
                case "source": {
                    List<List<Row>> to = empty(m.told[0]);
                    for (int k = 0; k < m.put.size(); k++) {
                        to.get(k % m.told[0]).add(m.put.get(k));
                    }
                    return to;
                }
                case "map": {
                    List<List<Row>> to = parts(m.inputs[0]);
                    to.forEach(p -> p.replaceAll(r -> mapped(r, m.told[0], m.told[1])));
                    return to;
                }
                case "filter": {
                    List<List<Row>> to = parts(m.inputs[0]);
                    to.forEach(p -> p.removeIf(r -> r.value < m.told[0] || r.value > m.told[1]));
                    return to;
                }
                case "union": {
                    List<List<Row>> to = parts(m.inputs[0]);
                    to.addAll(parts(m.inputs[1]));
                    return to;
                }
                case "group": {
                    List<List<Row>> to = empty(m.told[1]);
                    for (Row r : grouped(flat(parts(m.inputs[0])), m.told[0])) {
                        to.get(share(r.key, m.told[1])).add(r);
                    }
                    return to;
                }
                default:
                    return joined(n, m);
            }
        }

        private List<List<Row>> joined(int n, Made m) {
            List<Row> second = flat(parts(m.inputs[1]));
            if (broad(n)) {
                List<List<Row>> to = new ArrayList<>();
                for (List<Row> part : parts(m.inputs[0])) {
                    List<Row> made = new ArrayList<>();
                    for (Row a : part) {
                        for (Row b : second) {
                            if (a.key == b.key) {
                                made.add(new Row(a.key, a.value + b.value));
                            }
                        }
                    }
                    to.add(made);
                }
                return to;
            }
            List<List<Row>> to = empty(m.told[0]);
            List<Row> first = flat(parts(m.inputs[0]));
            TreeSet<Integer> keys = new TreeSet<>();
            first.forEach(r -> keys.add(r.key));
            for (int key : keys) {
                for (Row a : first) {
                    for (Row b : second) {
                        if (a.key == key && b.key == key) {
                            to.get(share(key, m.told[0])).add(new Row(key, a.value + b.value));
                        }
                    }
                }
            }
            return to;
        }

        private static int digest(List<Row> rows) {
            return rows.stream().mapToInt(r -> (31 * r.key + r.value) * (31 * r.key + r.value)).sum();
        }

        // ---- runs

        private void whole(int n) {
            if (cache.contains(n)) {
                used.add(n);
            } else if (outputs.add(n)) {
                for (int i = 0; i < parts(n).size(); i++) {
                    reads(n, i);
                }
            }
        }

        private int reads(int n, int part) {
            Made m = nodes.get(n);
            if (cache.contains(n)) {
                used.add(n);
                return parts(n).get(part).size();
            }
            came.add(n);
            switch (m.kind) {
                case "source":
                    return parts(n).get(part).size();
                case "map":
                case "filter":
                    return reads(m.inputs[0], part);
                case "union": {
                    int first = parts(m.inputs[0]).size();
                    return part < first ? reads(m.inputs[0], part) : reads(m.inputs[1], part - first);
                }
                case "group":
                    whole(m.inputs[0]);
                    return ofShare(m.inputs[0], m.told[1], part);
                default:
                    whole(m.inputs[1]);
                    if (broad(n)) {
                        return reads(m.inputs[0], part) + flat(parts(m.inputs[1])).size();
                    }
                    whole(m.inputs[0]);
                    return ofShare(m.inputs[0], m.told[0], part) + ofShare(m.inputs[1], m.told[0], part);
            }
        }

        private int ofShare(int n, int parts, int part) {
            return (int) flat(parts(n)).stream().filter(r -> share(r.key, parts) == part).count();
        }

        private void plan(int n) {
            outputs.clear();
            came.clear();
            used.clear();
            whole(n);
        }

        private int runStage(int output, int begin) {
            int tasks = parts(output).size();
            int[] work = new int[tasks];
            for (int i = 0; i < tasks; i++) {
                int reads = reads(output, i);
                int above = reads > memory ? reads - memory : 0;
                work[i] = 1 + reads + above;
                spilled += above;
            }
            int[] end = new int[tasks];
            Arrays.fill(end, Integer.MAX_VALUE);
            int[] first = new int[tasks];
            boolean[] copied = new boolean[tasks];
            int[] doing = {-1, -1, -1, -1};
            int next = 0;
            for (int tick = begin;; tick++) {
                int ended = 0;
                for (int i = 0; i < tasks; i++) {
                    if (end[i] <= tick) {
                        ended++;
                        for (int w = 0; w < 4; w++) {
                            doing[w] = doing[w] == i ? -1 : doing[w];
                        }
                    }
                }
                if (ended == tasks) {
                    return tick;
                }
                for (int w = 0; w < workers; w++) {
                    if (doing[w] >= 0) {
                        continue;
                    }
                    if (next < tasks) {
                        first[next] = attempts.size();
                        attempts.add(new Attempt(output, next, w, tick, false));
                        end[next] = tick + work[next] * slowness[w];
                        ends.add(end[next]);
                        doing[w] = next++;
                    } else if (ended * 2 >= tasks) {
                        int best = -1;
                        for (int i = tasks - 1; i >= 0; i--) {
                            if (end[i] > tick && !copied[i] && (best < 0 || end[i] >= end[best])) {
                                best = i;
                            }
                        }
                        if (best >= 0 && tick + work[best] * slowness[w] < end[best]) {
                            end[best] = tick + work[best] * slowness[w];
                            ends.set(first[best], end[best]);
                            attempts.add(new Attempt(output, best, w, tick, true));
                            ends.add(end[best]);
                            copied[best] = true;
                            doing[w] = best;
                        }
                    }
                }
            }
        }

        private int cached() {
            return cache.stream().mapToInt(n -> flat(parts(n)).size()).sum();
        }

        private int leave(int size) {
            int left = 0;
            while (cached() + size > room && !cache.isEmpty()) {
                cache.remove(0);
                left++;
            }
            return left;
        }

        private int run(int n) {
            plan(n);
            attempts = new ArrayList<>();
            ends = new ArrayList<>();
            spilled = 0;
            workersThen = workers;
            ticks = 0;
            for (int output : new TreeSet<>(outputs)) {
                ticks = runStage(output, ticks);
            }
            cache.removeAll(used);
            cache.addAll(used);
            for (int node : came) {
                int size = flat(parts(node)).size();
                if (nodes.get(node).marked && !cache.contains(node) && size <= room) {
                    leave(size);
                    cache.add(node);
                }
            }
            return ticks;
        }

        // ---- calls

        private void node(int n) {
            demand(n >= 0 && n < nodes.size(), BOUNDS);
        }

        private void range(int x, int least, int most) {
            demand(x >= least && x <= most, ARGUMENT);
        }

        private void free() {
            demand(nodes.size() < 14, STATE);
        }

        private int make(String kind, int[] inputs, int bound, int width, int... told) {
            demand(bound <= 300 && width <= 8, STATE);
            Made m = new Made();
            m.kind = kind;
            m.inputs = inputs;
            m.told = told;
            m.bound = bound;
            m.width = width;
            nodes.add(m);
            return nodes.size() - 1;
        }

        private int bound(int n) {
            return nodes.get(n).bound;
        }

        private int width(int n) {
            return nodes.get(n).width;
        }

        private List<Row> part(int n, int part) {
            node(n);
            List<List<Row>> all = parts(n);
            demand(part >= 0 && part < all.size(), BOUNDS);
            return all.get(part);
        }

        private Row row(int n, int part, int place) {
            List<Row> rows = part(n, part);
            demand(place >= 0 && place < rows.size(), BOUNDS);
            return rows.get(place);
        }

        private Attempt attempt(int a) {
            demand(a >= 0 && a < attempts.size(), BOUNDS);
            return attempts.get(a);
        }

        private void emptyCache() {
            cache = new ArrayList<>();
        }

        Object answer(String call, int a, int b, int c) {
            switch (call) {
                case "source":
                    range(a, 1, 4);
                    free();
                    return make(call, new int[0], 12, a, a);
                case "put": {
                    node(a);
                    Made m = nodes.get(a);
                    demand(m.kind.equals("source") && m.put.size() < 12, STATE);
                    m.put.add(new Row(b, c));
                    emptyCache();
                    return m.put.size();
                }
                case "map":
                    node(a);
                    range(b, 0, 4);
                    demand(b != 3 || c >= 1, ARGUMENT);
                    free();
                    return make(call, new int[] {a}, bound(a), width(a), b, c);
                case "filter":
                    node(a);
                    free();
                    return make(call, new int[] {a}, bound(a), width(a), b, c);
                case "union":
                    node(a);
                    node(b);
                    free();
                    return make(call, new int[] {a, b}, bound(a) + bound(b), width(a) + width(b));
                case "group":
                    node(a);
                    range(b, 0, 3);
                    range(c, 1, 4);
                    free();
                    return make(call, new int[] {a}, bound(a), c, b, c);
                case "join":
                    node(a);
                    node(b);
                    range(c, 1, 4);
                    free();
                    return make(call, new int[] {a, b}, bound(a) * bound(b), Math.max(c, width(a)), c);
                case "nodes":
                    return nodes.size();
                case "partitions":
                    node(a);
                    return parts(a).size();
                case "rowsIn":
                    return part(a, b).size();
                case "rows":
                    node(a);
                    return flat(parts(a)).size();
                case "keyAt":
                    return row(a, b, c).key;
                case "valueAt":
                    return row(a, b, c).value;
                case "isBroad":
                    node(a);
                    demand(nodes.get(a).kind.equals("join"), STATE);
                    return broad(a);
                case "digest":
                case "digestInPlace":
                    node(a);
                    return digest(flat(parts(a)));
                default:
                    return answerOfSettingsAndRuns(call, a, b);
            }
        }

        private Object answerOfSettingsAndRuns(String call, int a, int b) {
            int before;
            switch (call) {
                case "setWorkers":
                    range(a, 1, 4);
                    before = workers;
                    workers = a;
                    return before;
                case "setSlowness":
                    demand(a >= 0 && a <= 3, BOUNDS);
                    range(b, 1, 9);
                    before = slowness[a];
                    slowness[a] = b;
                    return before;
                case "setMemory":
                    range(a, 0, 1000);
                    before = memory;
                    memory = a;
                    return before;
                case "setLimit":
                    range(a, 0, 1000);
                    before = limit;
                    limit = a;
                    emptyCache();
                    return before;
                case "setRoom":
                    range(a, 0, 1000);
                    room = a;
                    return leave(0);
                case "mark": {
                    node(a);
                    boolean was = nodes.get(a).marked;
                    nodes.get(a).marked = b != 0;
                    return was;
                }
                case "isCached":
                    node(a);
                    return cache.contains(a);
                case "stages":
                    node(a);
                    plan(a);
                    return outputs.size();
                case "outputOf":
                    node(a);
                    plan(a);
                    demand(b >= 0 && b < outputs.size(), BOUNDS);
                    return new ArrayList<>(outputs).get(b);
                case "run":
                    node(a);
                    return run(a);
                case "ticks":
                    return ticks;
                case "spilled":
                    return spilled;
                case "attempts":
                    return attempts.size();
                case "nodeOf":
                    return attempt(a).node;
                case "partitionOf":
                    return attempt(a).part;
                case "workerOf":
                    return attempt(a).worker;
                case "startOf":
                    return attempt(a).start;
                case "endOf":
                    attempt(a);
                    return ends.get(a);
                case "isCopy":
                    return attempt(a).copy;
                case "share": {
                    int sum = 0;
                    for (int i = 0; i < attempts.size(); i++) {
                        sum += ends.get(i) - attempts.get(i).start;
                    }
                    return ticks == 0 ? 0.0f : (float) sum / (float) (ticks * workersThen);
                }
                default:
                    throw new AssertionError(call);
            }
        }
    }

    private static Object answerOfClass(Taskgraphic x, String call, int a, int b, int c) {
        return switch (call) {
            case "source" -> x.source(a);
            case "put" -> x.put(a, b, c);
            case "map" -> x.map(a, b, c);
            case "filter" -> x.filter(a, b, c);
            case "union" -> x.union(a, b);
            case "group" -> x.group(a, b, c);
            case "join" -> x.join(a, b, c);
            case "nodes" -> x.nodes();
            case "partitions" -> x.partitions(a);
            case "rowsIn" -> x.rowsIn(a, b);
            case "rows" -> x.rows(a);
            case "keyAt" -> x.keyAt(a, b, c);
            case "valueAt" -> x.valueAt(a, b, c);
            case "isBroad" -> x.isBroad(a);
            case "digest" -> x.digest(a);
            case "digestInPlace" -> x.digestInPlace(a);
            case "setWorkers" -> x.setWorkers(a);
            case "setSlowness" -> x.setSlowness(a, b);
            case "setMemory" -> x.setMemory(a);
            case "setLimit" -> x.setLimit(a);
            case "setRoom" -> x.setRoom(a);
            case "mark" -> x.mark(a, b != 0);
            case "isCached" -> x.isCached(a);
            case "stages" -> x.stages(a);
            case "outputOf" -> x.outputOf(a, b);
            case "run" -> x.run(a);
            case "ticks" -> x.ticks();
            case "spilled" -> x.spilled();
            case "attempts" -> x.attempts();
            case "nodeOf" -> x.nodeOf(a);
            case "partitionOf" -> x.partitionOf(a);
            case "workerOf" -> x.workerOf(a);
            case "startOf" -> x.startOf(a);
            case "endOf" -> x.endOf(a);
            case "isCopy" -> x.isCopy(a);
            case "share" -> x.share();
            default -> throw new AssertionError(call);
        };
    }

    // ---- the runs

    private static final String[] MAKING = {"source", "put", "map", "filter", "union", "group", "join"};
    private static final String[] HOLDING = {"nodes", "partitions", "rowsIn", "rows", "keyAt", "valueAt",
        "isBroad", "digest", "digestInPlace"};
    private static final String[] SETTING = {"setWorkers", "setSlowness", "setMemory", "setLimit", "setRoom",
        "mark", "isCached"};
    private static final String[] RUNNING = {"stages", "outputOf", "run", "ticks", "spilled", "attempts",
        "nodeOf", "partitionOf", "workerOf", "startOf", "endOf", "isCopy", "share"};

    /** How often calls of each of the four kinds come, and how wild their arguments are. */
    private record Style(String name, int making, int holding, int setting, int running, int wild) {
    }

    private static final Style[] STYLES = {
        new Style("all alike", 5, 5, 5, 5, 10),
        new Style("caching", 1, 1, 6, 12, 2),
        new Style("running", 2, 1, 3, 14, 2),
        new Style("holding", 8, 12, 1, 1, 4),
        new Style("copying", 1, 0, 6, 6, 1),
    };

    private static final int[] EDGES = {0, 1, -1, 2, 3, 4, 5, 7, 8, 9, 10, 12, 13, 14, 20, 299, 300, 301, 1000, 1001,
        Integer.MAX_VALUE, Integer.MIN_VALUE, Integer.MIN_VALUE + 1, Integer.MAX_VALUE - 1};

    private final Random random;
    private final Style style;
    private final Taskgraphic real = new Taskgraphic();
    private final Model model = new Model();
    private final List<String> told = new ArrayList<>();
    private int calls;
    private String wrong;

    private ModelRuns(Style style, long seed) {
        this.style = style;
        random = new Random(seed);
    }

    private int upTo(int most) {
        return random.nextInt(most + 1);
    }

    private boolean wild() {
        return random.nextInt(100) < style.wild;
    }

    private int edge() {
        return EDGES[random.nextInt(EDGES.length)];
    }

    private int aNode() {
        return wild() ? edge() : model.nodes.isEmpty() ? 0 : random.nextInt(model.nodes.size());
    }

    private int aLateNode() {
        return wild() ? edge() : model.nodes.isEmpty() ? 0 : Math.max(0, model.nodes.size() - 1 - upTo(2));
    }

    private int within(int least, int most) {
        return wild() ? edge() : least + upTo(most - least);
    }

    private int aKey() {
        return random.nextInt(12) == 0 ? edge() : upTo(4) - 1;
    }

    private int aValue() {
        return random.nextInt(12) == 0 ? edge() : upTo(30) - 10;
    }

    private void say(String call, int a, int b, int c) {
        if (calls >= CALLS || wrong != null) {
            return;
        }
        calls++;
        Object due;
        try {
            due = model.answer(call, a, b, c);
        } catch (Due e) {
            due = "throws." + e.getMessage();
        }
        Object got;
        try {
            got = answerOfClass(real, call, a, b, c);
        } catch (RuntimeException e) {
            got = "throws." + e.getClass().getSimpleName();
        }
        told.add(call + "(" + a + ", " + b + ", " + c + ") answered " + got);
        if (!due.equals(got)) {
            wrong = "due is " + due;
        }
    }

    private void sayAnyOf(String[] those) {
        String call = those[random.nextInt(those.length)];
        switch (call) {
            case "source" -> say(call, within(1, 4), 0, 0);
            case "put" -> say(call, aNode(), aKey(), aValue());
            case "map" -> say(call, aNode(), within(0, 4), within(-3, 7));
            case "filter" -> say(call, aNode(), within(-20, 10), within(5, 40));
            case "union" -> say(call, aNode(), aNode(), 0);
            case "group" -> say(call, aNode(), within(0, 3), within(1, 4));
            case "join" -> say(call, aNode(), aNode(), within(1, 4));
            case "rowsIn" -> say(call, aNode(), within(0, 3), 0);
            case "keyAt", "valueAt" -> say(call, aNode(), within(0, 3), within(0, 3));
            case "setWorkers" -> say(call, within(1, 4), 0, 0);
            case "setSlowness" -> say(call, within(0, 3), within(1, 9), 0);
            case "setMemory" -> say(call, within(0, 12), 0, 0);
            case "setLimit" -> say(call, random.nextBoolean() ? within(0, 12) : within(0, 1000), 0, 0);
            case "setRoom" -> say(call, random.nextBoolean() ? within(0, 30) : within(0, 1000), 0, 0);
            case "mark" -> say(call, aNode(), upTo(3), 0);
            case "outputOf" -> say(call, aLateNode(), within(0, 3), 0);
            case "run" -> sayRun();
            case "nodeOf", "partitionOf", "workerOf", "startOf", "endOf", "isCopy" ->
                say(call, within(0, Math.max(0, model.attempts.size())), 0, 0);
            default -> say(call, random.nextBoolean() ? aNode() : aLateNode(), 0, 0);
        }
    }

    /** A run, and now and then everything that is told of it and of the cache. */
    private void sayRun() {
        say("run", random.nextBoolean() ? aNode() : aLateNode(), 0, 0);
        if (random.nextInt(6) == 0) {
            for (String call : new String[] {"ticks", "spilled", "attempts", "share"}) {
                say(call, 0, 0, 0);
            }
            for (int i = 0; i < model.nodes.size(); i++) {
                say("isCached", i, 0, 0);
            }
            for (int i = 0; i < model.attempts.size() && i < 12; i++) {
                for (String call : Arrays.copyOfRange(RUNNING, 6, 12)) {
                    say(call, i, 0, 0);
                }
            }
        }
    }

    /** Sources with rows first, so that what is made of them holds something. */
    private void begin() {
        int sources = 1 + upTo(2);
        for (int s = 0; s < sources; s++) {
            say("source", 1 + upTo(3), 0, 0);
            int rows = random.nextBoolean() ? 12 : upTo(12);
            for (int r = 0; r < rows; r++) {
                say("put", s, aKey(), aValue());
            }
        }
        int more = upTo(12);
        for (int m = 0; m < more; m++) {
            sayAnyOf(new String[] {"map", "filter", "union", "group", "join", "join"});
        }
        if (style.name.equals("copying")) {
            sayTasksOfUnlikeWork();
            return;
        }
        if (random.nextBoolean()) {
            for (int w = 0; w < 4; w++) {
                say("setSlowness", w, 1 + upTo(8), 0);
            }
            say("setWorkers", 1 + upTo(3), 0, 0);
            say("setRoom", upTo(60), 0, 0);
            for (int n = 0; n < model.nodes.size(); n++) {
                say("mark", n, upTo(1), 0);
            }
        }
    }

    /** Groups whose shares are uneven, on four workers of unlike slowness, so that copies are many. */
    private void sayTasksOfUnlikeWork() {
        say("group", aNode(), upTo(3), 4);
        say("group", aLateNode(), upTo(3), 4);
        say("union", model.nodes.size() - 1, model.nodes.size() - 2, 0);
        say("setMemory", 0, 0, 0);
        for (int again = 0; again < 40; again++) {
            for (int w = 0; w < 4; w++) {
                say("setSlowness", w, random.nextBoolean() ? 1 + upTo(8) : 1 + upTo(1), 0);
            }
            say("setWorkers", 3 + upTo(1), 0, 0);
            say("run", aLateNode(), 0, 0);
            say("ticks", 0, 0, 0);
            say("share", 0, 0, 0);
            say("attempts", 0, 0, 0);
        }
    }

    private boolean go() {
        begin();
        int all = style.making + style.holding + style.setting + style.running;
        while (calls < CALLS && wrong == null) {
            int one = random.nextInt(all);
            if (one < style.making) {
                sayAnyOf(MAKING);
            } else if (one < style.making + style.holding) {
                sayAnyOf(HOLDING);
            } else if (one < style.making + style.holding + style.setting) {
                sayAnyOf(SETTING);
            } else {
                sayAnyOf(RUNNING);
            }
        }
        return wrong == null;
    }

    public static void main(String[] args) {
        int runs = args.length > 0 ? Integer.parseInt(args[0]) : RUNS_OF_EACH_STYLE;
        int failed = 0;
        for (Style style : STYLES) {
            for (long seed = 0; seed < runs && failed < 5; seed++) {
                ModelRuns run = new ModelRuns(style, seed);
                if (!run.go()) {
                    failed++;
                    System.out.println("style " + style.name + ", seed " + seed + ":");
                    run.told.forEach(line -> System.out.println("  " + line));
                    System.out.println("  " + run.wrong);
                }
            }
        }
        System.out.println(failed == 0 ? "all answers are as the model's" : failed + " runs went wrong");
        if (failed != 0) {
            System.exit(1);
        }
    }
}
