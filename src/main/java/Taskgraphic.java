import java.util.ArrayList;

/**
 * A runner of data flows. Nodes tell what data sets hold; a run works a node out in stages, task by
 * task, on workers of unlike slowness.
 */
public final class Taskgraphic {
    private static final int MOST_NODES = 14;
    private static final int MOST_PUT = 12;
    private static final int MOST_ROWS = 300;
    private static final int MOST_WIDTH = 8;
    private static final int MOST_TOLD_PARTITIONS = 4;
    private static final int MOST_WORKERS = 4;
    private static final int MOST_SLOWNESS = 9;
    private static final int MOST_OF_A_SETTING = 1000;
    private static final int NO_NODE = -1;

    /** A task has one copy at most. */
    private static final int MOST_ATTEMPTS = 2 * MOST_NODES * MOST_WIDTH;

    private static final int MULTIPLY_VALUE = 1;
    private static final int ADD_TO_KEY = 2;
    private static final int KEY_MODULO = 3;
    private static final int EXCHANGE = 4;
    private static final int MOST_MAP_HOW = 4;

    private static final int LEAST = 1;
    private static final int GREATEST = 2;
    private static final int COUNT = 3;
    private static final int MOST_GROUP_HOW = 3;

    private final Graph graph;
    private final Holding spread;
    private final Holding inOnePlace;
    private final Cache cache;
    private final Plan plan;
    private final Stage stage;
    private final Crew crew;
    private final Log log;
    private int memory = 20;

    public Taskgraphic() {
        graph = new Graph();
        spread = new Holding(graph, false);
        inOnePlace = new Holding(graph, true);
        cache = new Cache();
        plan = new Plan(graph, spread, cache);
        stage = new Stage();
        log = new Log();
        crew = new Crew(log);
    }

    // ---- nodes

    public int source(int partitions) throws IllegalArgumentException, IllegalStateException {
        checkToldPartitions(partitions);
        checkAnotherNode();
        Node node = new Node(Kind.SOURCE, NO_NODE, NO_NODE, MOST_PUT, partitions);
        node.toldPartitions = partitions;
        return graph.add(node);
    }

    public int put(int node, int key, int value)
            throws IndexOutOfBoundsException, IllegalStateException {
        checkNode(node);
        Node source = graph.at(node);
        if (source.kind != Kind.SOURCE || source.told.size() >= MOST_PUT) {
            throw new IllegalStateException("the node is no source, or has 12 rows");
        }
        source.told.add(key, value);
        spread.forgetAllOf(node);
        inOnePlace.forgetAllOf(node);
        cache.empty();
        return source.told.size();
    }

    public int map(int input, int how, int constant)
            throws IndexOutOfBoundsException, IllegalArgumentException, IllegalStateException {
        checkNode(input);
        if (how < 0 || how > MOST_MAP_HOW || (how == KEY_MODULO && constant < 1)) {
            throw new IllegalArgumentException("how or constant is out of range");
        }
        checkAnotherNode();
        Node node = changeOf(Kind.MAP, input);
        node.how = how;
        node.constant = constant;
        return graph.add(node);
    }

    public int filter(int input, int low, int high)
            throws IndexOutOfBoundsException, IllegalStateException {
        checkNode(input);
        checkAnotherNode();
        Node node = changeOf(Kind.FILTER, input);
        node.low = low;
        node.high = high;
        return graph.add(node);
    }

    public int union(int first, int second)
            throws IndexOutOfBoundsException, IllegalStateException {
        checkNode(first);
        checkNode(second);
        checkAnotherNode();
        Node one = graph.at(first);
        Node other = graph.at(second);
        int bound = one.bound + other.bound;
        int width = one.width + other.width;
        if (bound > MOST_ROWS || width > MOST_WIDTH) {
            throw new IllegalStateException("its bound or width would be too great");
        }
        return graph.add(new Node(Kind.UNION, first, second, bound, width));
    }

    public int group(int input, int how, int partitions)
            throws IndexOutOfBoundsException, IllegalArgumentException, IllegalStateException {
        checkNode(input);
        if (how < 0 || how > MOST_GROUP_HOW) {
            throw new IllegalArgumentException("how is out of range");
        }
        checkToldPartitions(partitions);
        checkAnotherNode();
        Node node = new Node(Kind.GROUP, input, NO_NODE, graph.at(input).bound, partitions);
        node.how = how;
        node.toldPartitions = partitions;
        return graph.add(node);
    }

    public int join(int first, int second, int partitions)
            throws IndexOutOfBoundsException, IllegalArgumentException, IllegalStateException {
        checkNode(first);
        checkNode(second);
        checkToldPartitions(partitions);
        checkAnotherNode();
        int bound = graph.at(first).bound * graph.at(second).bound;
        if (bound > MOST_ROWS) {
            throw new IllegalStateException("its bound would be too great");
        }
        int width = Math.max(partitions, graph.at(first).width);
        Node node = new Node(Kind.JOIN, first, second, bound, width);
        node.toldPartitions = partitions;
        return graph.add(node);
    }

    public int nodes() {
        return graph.size();
    }

    // ---- what nodes hold

    public int partitions(int node) throws IndexOutOfBoundsException {
        checkNode(node);
        return spread.freshRows(node).parts();
    }

    public int rowsIn(int node, int partition) throws IndexOutOfBoundsException {
        checkNode(node);
        Rows rows = spread.freshRows(node);
        checkPartition(rows, partition);
        return rows.sizeOf(partition);
    }

    public int rows(int node) throws IndexOutOfBoundsException {
        checkNode(node);
        return spread.freshRows(node).size();
    }

    public int keyAt(int node, int partition, int place) throws IndexOutOfBoundsException {
        checkNode(node);
        Rows rows = spread.freshRows(node);
        checkPlace(rows, partition, place);
        return rows.key(rows.begin(partition) + place);
    }

    public int valueAt(int node, int partition, int place) throws IndexOutOfBoundsException {
        checkNode(node);
        Rows rows = spread.freshRows(node);
        checkPlace(rows, partition, place);
        return rows.value(rows.begin(partition) + place);
    }

    public boolean isBroad(int node) throws IndexOutOfBoundsException, IllegalStateException {
        checkNode(node);
        if (graph.at(node).kind != Kind.JOIN) {
            throw new IllegalStateException("the node is no join");
        }
        spread.freshRows(node);
        return spread.joinsBroadly(node);
    }

    public int digest(int node) throws IndexOutOfBoundsException {
        checkNode(node);
        return spread.freshRows(node).squares();
    }

    public int digestInPlace(int node) throws IndexOutOfBoundsException {
        checkNode(node);
        return inOnePlace.freshRows(node).squares();
    }

    // ---- settings

    public int setWorkers(int workers) throws IllegalArgumentException {
        if (workers < 1 || workers > MOST_WORKERS) {
            throw new IllegalArgumentException("workers is out of range");
        }
        int before = crew.size;
        crew.size = workers;
        return before;
    }

    public int setSlowness(int worker, int slowness)
            throws IndexOutOfBoundsException, IllegalArgumentException {
        if (worker < 0 || worker >= MOST_WORKERS) {
            throw new IndexOutOfBoundsException("there is no such worker");
        }
        if (slowness < 1 || slowness > MOST_SLOWNESS) {
            throw new IllegalArgumentException("slowness is out of range");
        }
        int before = crew.slowness.at(worker);
        crew.slowness.set(worker, slowness);
        return before;
    }

    public int setMemory(int rows) throws IllegalArgumentException {
        checkSetting(rows);
        int before = memory;
        memory = rows;
        return before;
    }

    public int setLimit(int rows) throws IllegalArgumentException {
        checkSetting(rows);
        int before = graph.limit;
        graph.limit = rows;
        // In one place no join is broad: what is held there stays as it is.
        spread.forgetAll();
        cache.empty();
        return before;
    }

    public int setRoom(int rows) throws IllegalArgumentException {
        checkSetting(rows);
        cache.room = rows;
        return cache.makeRoomFor(0);
    }

    public boolean mark(int node, boolean mark) throws IndexOutOfBoundsException {
        checkNode(node);
        boolean before = graph.at(node).marked;
        graph.at(node).marked = mark;
        return before;
    }

    public boolean isCached(int node) throws IndexOutOfBoundsException {
        checkNode(node);
        return cache.holds(node);
    }

    // ---- runs

    public int stages(int node) throws IndexOutOfBoundsException {
        checkNode(node);
        spread.freshRows(node);
        plan.draw(node);
        return plan.countOfStages();
    }

    public int outputOf(int node, int stage) throws IndexOutOfBoundsException {
        checkNode(node);
        spread.freshRows(node);
        plan.draw(node);
        if (stage < 0 || stage >= plan.countOfStages()) {
            throw new IndexOutOfBoundsException("there are not so many stages");
        }
        return plan.outputOfStage(stage);
    }

    public int run(int node) throws IndexOutOfBoundsException {
        checkNode(node);
        spread.freshRows(node);
        plan.draw(node);
        log.begin(crew.size);
        int tick = 0;
        for (int output = 0; output < MOST_NODES; output++) {
            if (has(plan.outputs, output)) {
                loadStage(output);
                tick = crew.workOff(stage, tick);
            }
        }
        log.ticks = tick;
        renewCache();
        return tick;
    }

    public int ticks() {
        return log.ticks;
    }

    public int spilled() {
        return log.spilled;
    }

    public int attempts() {
        return log.count;
    }

    public int nodeOf(int attempt) throws IndexOutOfBoundsException {
        checkAttempt(attempt);
        return log.outputs.at(attempt);
    }

    public int partitionOf(int attempt) throws IndexOutOfBoundsException {
        checkAttempt(attempt);
        return log.parts.at(attempt);
    }

    public int workerOf(int attempt) throws IndexOutOfBoundsException {
        checkAttempt(attempt);
        return log.workers.at(attempt);
    }

    public int startOf(int attempt) throws IndexOutOfBoundsException {
        checkAttempt(attempt);
        return log.starts.at(attempt);
    }

    public int endOf(int attempt) throws IndexOutOfBoundsException {
        checkAttempt(attempt);
        return log.ends.at(attempt);
    }

    public boolean isCopy(int attempt) throws IndexOutOfBoundsException {
        checkAttempt(attempt);
        return log.copies.at(attempt) != 0;
    }

    public float share() {
        int most = log.ticks * log.crewSize;
        return most <= 0 ? 0.0f : (float) log.ticksOfAttempts() / (float) most;
    }

    // ---- what the calls have in common

    private void checkNode(int node) {
        if (node < 0 || node >= graph.size()) {
            throw new IndexOutOfBoundsException("there is no such node");
        }
    }

    private void checkAnotherNode() {
        if (graph.size() >= MOST_NODES) {
            throw new IllegalStateException("there are 14 nodes");
        }
    }

    private void checkAttempt(int attempt) {
        if (attempt < 0 || attempt >= log.count) {
            throw new IndexOutOfBoundsException("there is no such attempt");
        }
    }

    private static void checkToldPartitions(int partitions) {
        if (partitions < 1 || partitions > MOST_TOLD_PARTITIONS) {
            throw new IllegalArgumentException("partitions is out of range");
        }
    }

    private static void checkSetting(int rows) {
        if (rows < 0 || rows > MOST_OF_A_SETTING) {
            throw new IllegalArgumentException("rows is out of range");
        }
    }

    private static void checkPartition(Rows rows, int partition) {
        if (partition < 0 || partition >= rows.parts()) {
            throw new IndexOutOfBoundsException("there is no such partition");
        }
    }

    private static void checkPlace(Rows rows, int partition, int place) {
        checkPartition(rows, partition);
        if (place < 0 || place >= rows.sizeOf(partition)) {
            throw new IndexOutOfBoundsException("there is no such row");
        }
    }

    private Node changeOf(Kind kind, int input) {
        Node changed = graph.at(input);
        return new Node(kind, input, NO_NODE, changed.bound, changed.width);
    }

    private void loadStage(int output) {
        int tasks = spread.of(output).parts();
        stage.begin(output, tasks);
        for (int part = 0; part < tasks; part++) {
            int reads = plan.readsOf(output, part);
            int above = Math.max(0, reads - memory);
            stage.work.set(part, 1 + reads + above);
            log.spilled += above;
        }
    }

    private void renewCache() {
        for (int node = 0; node < MOST_NODES; node++) {
            if (has(plan.used, node)) {
                cache.makeLatest(node);
            }
        }
        for (int node = 0; node < MOST_NODES; node++) {
            if (has(plan.workedOut, node) && graph.at(node).marked && !cache.holds(node)) {
                cache.enter(node, spread.of(node).size());
            }
        }
    }

    /** Sets of nodes, or of partitions, are the bits of an int. */
    private static boolean has(int set, int number) {
        return number >= 0 && number < MOST_NODES && (set >> number & 1) != 0;
    }

    private static int with(int set, int number) {
        return number >= 0 && number < MOST_NODES ? set | 1 << number : set;
    }

    private static int modulo(int number, int divisor) {
        return divisor < 1 ? 0 : Math.floorMod(number, divisor);
    }

    private enum Kind {
        SOURCE, MAP, FILTER, UNION, GROUP, JOIN
    }

    /**
     * Ints in a fixed number of places. All arrays of numbers stand behind this, so that each index
     * is tested: a place that there is not reads 0, and what is set there is lost.
     */
    private static final class Ints {
        private final int[] cells;

        Ints(int length) {
            cells = new int[Math.max(0, length)];
        }

        int at(int place) {
            return place >= 0 && place < cells.length ? cells[place] : 0;
        }

        void set(int place, int number) {
            if (place >= 0 && place < cells.length) {
                cells[place] = number;
            }
        }
    }

    /** Rows in an order, partition by partition. */
    private static final class Rows {
        private final int most;
        private final Ints keys;
        private final Ints values;
        private final Ints ends;
        private int count;
        private int parts;

        Rows(int most) {
            this.most = most;
            keys = new Ints(most);
            values = new Ints(most);
            ends = new Ints(MOST_WIDTH);
        }

        void clear() {
            count = 0;
            parts = 0;
        }

        int size() {
            return count;
        }

        int parts() {
            return parts;
        }

        int begin(int part) {
            return ends.at(part - 1);
        }

        int end(int part) {
            return ends.at(part);
        }

        int sizeOf(int part) {
            return end(part) - begin(part);
        }

        int key(int place) {
            return keys.at(place);
        }

        int value(int place) {
            return values.at(place);
        }

        void setValue(int place, int value) {
            values.set(place, value);
        }

        void add(int key, int value) {
            if (count < most) {
                keys.set(count, key);
                values.set(count, value);
                count++;
            }
        }

        void insert(int place, int key, int value) {
            if (count >= most) {
                return;
            }
            for (int behind = count; behind > place; behind--) {
                keys.set(behind, keys.at(behind - 1));
                values.set(behind, values.at(behind - 1));
            }
            keys.set(place, key);
            values.set(place, value);
            count++;
        }

        void endPartition() {
            ends.set(parts, count);
            parts++;
        }

        boolean hasKey(int place, int key) {
            return place >= 0 && place < count && keys.at(place) == key;
        }

        /** For rows by rising keys: the place behind the last one whose key is not above this one. */
        int placeBehind(int key) {
            int low = 0;
            int high = count;
            for (int step = 0; step < MOST_ROWS && low < high; step++) {
                int middle = (low + high) / 2;
                if (keys.at(middle) <= key) {
                    low = middle + 1;
                } else {
                    high = middle;
                }
            }
            return low;
        }

        int squares() {
            int sum = 0;
            for (int place = 0; place < count; place++) {
                int root = 31 * keys.at(place) + values.at(place);
                sum += root * root;
            }
            return sum;
        }
    }

    /** What a node was told when it was made, what it was given since, and room for what it holds. */
    private static final class Node {
        final Kind kind;
        final int first;
        final int second;
        final int bound;
        final int width;
        final Rows told;
        /** A node never holds more rows than its bound. */
        final Rows spread;
        final Rows inOnePlace;
        int toldPartitions;
        int how;
        int constant;
        int low;
        int high;
        boolean marked;
        /** The node itself and all nodes that it is made of, straight or not. */
        int lineage;

        Node(Kind kind, int first, int second, int bound, int width) {
            this.kind = kind;
            this.first = first;
            this.second = second;
            this.bound = bound;
            this.width = width;
            told = new Rows(kind == Kind.SOURCE ? MOST_PUT : 0);
            spread = new Rows(bound);
            inOnePlace = new Rows(bound);
        }

        int newKey(int key, int value) {
            if (how == ADD_TO_KEY) {
                return key + constant;
            }
            if (how == KEY_MODULO) {
                return modulo(key, constant);
            }
            return how == EXCHANGE ? value : key;
        }

        int newValue(int key, int value) {
            if (how == MULTIPLY_VALUE) {
                return value * constant;
            }
            if (how == EXCHANGE) {
                return key;
            }
            return how == ADD_TO_KEY || how == KEY_MODULO ? value : value + constant;
        }

        int firstOfGroup(int value) {
            return how == COUNT ? 1 : value;
        }

        int nextOfGroup(int before, int value) {
            if (how == LEAST) {
                return Math.min(before, value);
            }
            if (how == GREATEST) {
                return Math.max(before, value);
            }
            return before + firstOfGroup(value);
        }
    }

    /** The nodes by their numbers, and the limit up to which joins are broad. */
    private static final class Graph {
        private final ArrayList<Node> made = new ArrayList<>();
        /** Stands for a node that there is not, so that no reference is ever null. */
        private final Node none = new Node(Kind.SOURCE, NO_NODE, NO_NODE, 0, 0);
        int limit = 4;

        int size() {
            return made.size();
        }

        Node at(int number) {
            return number >= 0 && number < made.size() ? made.get(number) : none;
        }

        int add(Node node) {
            int number = made.size();
            int inputs = at(node.first).lineage | at(node.second).lineage;
            node.lineage = with(inputs, number);
            made.add(node);
            return number;
        }
    }

    /**
     * What the nodes hold: spread over their partitions, or in one place, where each node has a
     * single one. It is reckoned when it is asked for, and kept until a call changes it.
     */
    private static final class Holding {
        private final Graph graph;
        private final boolean inPlace;
        private final Rows byKey = new Rows(MOST_ROWS);
        private int fresh;

        Holding(Graph graph, boolean inPlace) {
            this.graph = graph;
            this.inPlace = inPlace;
        }

        /** What a node holds, if it is fresh. */
        Rows of(int node) {
            Node holder = graph.at(node);
            return inPlace ? holder.inOnePlace : holder.spread;
        }

        void forgetAll() {
            fresh = 0;
        }

        void forgetAllOf(int source) {
            for (int node = source; node < MOST_NODES; node++) {
                if (has(graph.at(node).lineage, source)) {
                    fresh &= ~with(0, node);
                }
            }
        }

        /** Inputs have lesser numbers, so that rising numbers find them fresh. */
        Rows freshRows(int node) {
            int stale = graph.at(node).lineage & ~fresh;
            for (int early = 0; early < MOST_NODES; early++) {
                if (has(stale, early)) {
                    fill(graph.at(early), of(early));
                    fresh = with(fresh, early);
                }
            }
            return of(node);
        }

        boolean joinsBroadly(int node) {
            Node join = graph.at(node);
            return join.kind == Kind.JOIN && of(join.second).size() <= graph.limit;
        }

        private void fill(Node node, Rows to) {
            Rows first = of(node.first);
            Rows second = of(node.second);
            int parts = inPlace ? 1 : node.toldPartitions;
            to.clear();
            if (node.kind == Kind.SOURCE) {
                deal(node.told, parts, to);
            } else if (node.kind == Kind.MAP) {
                change(first, node, to);
            } else if (node.kind == Kind.FILTER) {
                sift(first, node, to);
            } else if (node.kind == Kind.UNION) {
                unite(first, second, to);
            } else if (node.kind == Kind.GROUP) {
                groupByKey(first, node);
                dealByKey(parts, to);
            } else if (!inPlace && second.size() <= graph.limit) {
                joinInOrder(first, second, to);
            } else {
                sortByKey(first);
                joinByKey(second, parts, to);
            }
        }

        private void deal(Rows told, int parts, Rows to) {
            for (int part = 0; part < parts; part++) {
                for (int row = 0; row < told.size(); row++) {
                    if (modulo(row, parts) == part) {
                        to.add(told.key(row), told.value(row));
                    }
                }
                to.endPartition();
            }
        }

        private void change(Rows from, Node map, Rows to) {
            for (int part = 0; part < from.parts(); part++) {
                for (int place = from.begin(part); place < from.end(part); place++) {
                    int key = from.key(place);
                    int value = from.value(place);
                    to.add(map.newKey(key, value), map.newValue(key, value));
                }
                to.endPartition();
            }
        }

        private void sift(Rows from, Node filter, Rows to) {
            for (int part = 0; part < from.parts(); part++) {
                for (int place = from.begin(part); place < from.end(part); place++) {
                    int value = from.value(place);
                    if (value >= filter.low && value <= filter.high) {
                        to.add(from.key(place), value);
                    }
                }
                to.endPartition();
            }
        }

        private void unite(Rows first, Rows second, Rows to) {
            append(first, to);
            append(second, to);
            if (inPlace) {
                to.endPartition();
            }
        }

        private void append(Rows from, Rows to) {
            for (int part = 0; part < from.parts(); part++) {
                for (int place = from.begin(part); place < from.end(part); place++) {
                    to.add(from.key(place), from.value(place));
                }
                if (!inPlace) {
                    to.endPartition();
                }
            }
        }

        private void groupByKey(Rows from, Node group) {
            byKey.clear();
            for (int place = 0; place < from.size(); place++) {
                int key = from.key(place);
                int value = from.value(place);
                int behind = byKey.placeBehind(key);
                if (byKey.hasKey(behind - 1, key)) {
                    int before = byKey.value(behind - 1);
                    byKey.setValue(behind - 1, group.nextOfGroup(before, value));
                } else {
                    byKey.insert(behind, key, group.firstOfGroup(value));
                }
            }
        }

        private void dealByKey(int parts, Rows to) {
            for (int part = 0; part < parts; part++) {
                for (int place = 0; place < byKey.size(); place++) {
                    int key = byKey.key(place);
                    if (modulo(key, parts) == part) {
                        to.add(key, byKey.value(place));
                    }
                }
                to.endPartition();
            }
        }

        private void joinInOrder(Rows first, Rows second, Rows to) {
            for (int part = 0; part < first.parts(); part++) {
                for (int place = first.begin(part); place < first.end(part); place++) {
                    addMatches(first.key(place), first.value(place), second, to);
                }
                to.endPartition();
            }
        }

        /** Rows with the same key keep their order: each goes behind those that came before. */
        private void sortByKey(Rows from) {
            byKey.clear();
            for (int place = 0; place < from.size(); place++) {
                int key = from.key(place);
                byKey.insert(byKey.placeBehind(key), key, from.value(place));
            }
        }

        private void joinByKey(Rows second, int parts, Rows to) {
            for (int part = 0; part < parts; part++) {
                for (int place = 0; place < byKey.size(); place++) {
                    int key = byKey.key(place);
                    if (modulo(key, parts) == part) {
                        addMatches(key, byKey.value(place), second, to);
                    }
                }
                to.endPartition();
            }
        }

        private void addMatches(int key, int value, Rows second, Rows to) {
            for (int place = 0; place < second.size(); place++) {
                if (second.key(place) == key) {
                    to.add(key, value + second.value(place));
                }
            }
        }
    }

    /** The nodes in the cache, the one that was used the longest time ago first. */
    private static final class Cache {
        private final Ints inOrder = new Ints(MOST_NODES);
        private final Ints sizes = new Ints(MOST_NODES);
        private int count;
        private int members;
        private int filled;
        int room;

        boolean holds(int node) {
            return has(members, node);
        }

        void empty() {
            count = 0;
            members = 0;
            filled = 0;
        }

        void makeLatest(int node) {
            for (int place = 0; place < count; place++) {
                if (inOrder.at(place) == node) {
                    int size = sizes.at(place);
                    remove(place);
                    append(node, size);
                    return;
                }
            }
        }

        void enter(int node, int size) {
            if (size <= room) {
                makeRoomFor(size);
                append(node, size);
            }
        }

        /** Answers how many nodes left. */
        int makeRoomFor(int size) {
            int left = 0;
            for (int turn = 0; turn < MOST_NODES && count > 0 && filled + size > room; turn++) {
                remove(0);
                left++;
            }
            return left;
        }

        private void append(int node, int size) {
            inOrder.set(count, node);
            sizes.set(count, size);
            members = with(members, node);
            filled += size;
            count++;
        }

        private void remove(int place) {
            members &= ~with(0, inOrder.at(place));
            filled -= sizes.at(place);
            count--;
            for (int to = place; to < count; to++) {
                inOrder.set(to, inOrder.at(to + 1));
                sizes.set(to, sizes.at(to + 1));
            }
        }
    }

    /** Which stages it takes to work a node out now, and what their tasks read and come to. */
    private static final class Plan {
        private final Graph graph;
        private final Holding holding;
        private final Cache cache;
        private final Ints reads = new Ints(MOST_NODES * MOST_WIDTH);
        int outputs;
        int workedOut;
        int used;

        Plan(Graph graph, Holding holding, Cache cache) {
            this.graph = graph;
            this.holding = holding;
            this.cache = cache;
        }

        int countOfStages() {
            return Integer.bitCount(outputs);
        }

        int outputOfStage(int stage) {
            int before = 0;
            for (int output = 0; output < MOST_NODES; output++) {
                if (has(outputs, output)) {
                    if (before == stage) {
                        return output;
                    }
                    before++;
                }
            }
            return NO_NODE;
        }

        int readsOf(int output, int part) {
            return reads.at(output * MOST_WIDTH + part);
        }

        /** What a stage needs has lesser numbers, so that falling numbers find every output. */
        void draw(int node) {
            outputs = 0;
            workedOut = 0;
            used = 0;
            needWhole(node);
            for (int output = MOST_NODES - 1; output >= 0; output--) {
                if (has(outputs, output)) {
                    int tasks = holding.of(output).parts();
                    for (int part = 0; part < tasks; part++) {
                        reads.set(output * MOST_WIDTH + part, readsOfTask(output, part));
                    }
                }
            }
        }

        private void needWhole(int node) {
            if (cache.holds(node)) {
                used = with(used, node);
            } else {
                outputs = with(outputs, node);
            }
        }

        private int readsOfTask(int output, int partition) {
            int sum = 0;
            int at = output;
            int part = partition;
            for (int step = 0; step < MOST_NODES; step++) {
                Node node = graph.at(at);
                if (cache.holds(at)) {
                    used = with(used, at);
                    return sum + holding.of(at).sizeOf(part);
                }
                workedOut = with(workedOut, at);
                if (node.kind == Kind.SOURCE) {
                    return sum + holding.of(at).sizeOf(part);
                }
                boolean broad = holding.joinsBroadly(at);
                if (node.kind == Kind.GROUP || (node.kind == Kind.JOIN && !broad)) {
                    return sum + readsOfShares(node, part);
                }
                if (broad) {
                    needWhole(node.second);
                    sum += holding.of(node.second).size();
                }
                int partsOfFirst = holding.of(node.first).parts();
                boolean inSecond = node.kind == Kind.UNION && part >= partsOfFirst;
                part = inSecond ? part - partsOfFirst : part;
                at = inSecond ? node.second : node.first;
            }
            return sum;
        }

        private int readsOfShares(Node node, int part) {
            needWhole(node.first);
            int sum = sizeOfShare(holding.of(node.first), node.toldPartitions, part);
            if (node.kind == Kind.JOIN) {
                needWhole(node.second);
                sum += sizeOfShare(holding.of(node.second), node.toldPartitions, part);
            }
            return sum;
        }

        private static int sizeOfShare(Rows rows, int parts, int part) {
            int size = 0;
            for (int place = 0; place < rows.size(); place++) {
                if (modulo(rows.key(place), parts) == part) {
                    size++;
                }
            }
            return size;
        }
    }

    /** The tasks of the stage that goes on, by their partitions. */
    private static final class Stage {
        private final Ints work = new Ints(MOST_WIDTH);
        private final Ints ends = new Ints(MOST_WIDTH);
        private final Ints attempts = new Ints(MOST_WIDTH);
        int output;
        int tasks;
        int taken;
        private int copied;

        void begin(int node, int count) {
            output = node;
            tasks = count;
            taken = 0;
            copied = 0;
        }

        void take(int attempt, int end) {
            attempts.set(taken, attempt);
            ends.set(taken, end);
            taken++;
        }

        void copy(int part, int end) {
            copied = with(copied, part);
            ends.set(part, end);
        }

        int ended(int tick) {
            int count = 0;
            for (int part = 0; part < taken; part++) {
                if (ends.at(part) <= tick) {
                    count++;
                }
            }
            return count;
        }

        int earliestEnd(int tick) {
            int earliest = tick;
            for (int part = 0; part < taken; part++) {
                int end = ends.at(part);
                if (end > tick && (earliest == tick || end < earliest)) {
                    earliest = end;
                }
            }
            return earliest;
        }

        /** The task to look at for a copy, or tasks if none is going on without one. */
        int latestWithoutCopy(int tick) {
            int latest = tasks;
            int end = tick;
            for (int part = 0; part < taken; part++) {
                if (!has(copied, part) && ends.at(part) > end) {
                    latest = part;
                    end = ends.at(part);
                }
            }
            return latest;
        }
    }

    /** The workers, who work off one stage after the other. */
    private static final class Crew {
        /** A tick is looked at behind each end and each copy of a task, and at the beginning. */
        private static final int MOST_LOOKS = 2 * MOST_WIDTH + 1;

        private final Log log;
        private final Ints slowness = new Ints(MOST_WORKERS);
        private final Ints idleFrom = new Ints(MOST_WORKERS);
        int size = 2;

        Crew(Log log) {
            this.log = log;
            for (int worker = 0; worker < MOST_WORKERS; worker++) {
                slowness.set(worker, 1);
            }
        }

        /** Answers the tick at which the stage has ended. */
        int workOff(Stage stage, int begin) {
            for (int worker = 0; worker < MOST_WORKERS; worker++) {
                idleFrom.set(worker, begin);
            }
            int tick = begin;
            for (int look = 0; look < MOST_LOOKS && stage.ended(tick) < stage.tasks; look++) {
                // Behind a copy, a worker that has refused that task finds another to look at.
                tick = look(stage, tick) ? tick + 1 : stage.earliestEnd(tick);
            }
            return tick;
        }

        /** Answers whether a copy was taken. */
        private boolean look(Stage stage, int tick) {
            boolean copied = false;
            boolean halfEnded = 2 * stage.ended(tick) >= stage.tasks;
            for (int worker = 0; worker < size; worker++) {
                if (idleFrom.at(worker) <= tick) {
                    if (stage.taken < stage.tasks) {
                        takeNext(stage, worker, tick);
                    } else if (halfEnded && takesCopy(stage, worker, tick)) {
                        copied = true;
                    }
                }
            }
            return copied;
        }

        private void takeNext(Stage stage, int worker, int tick) {
            int part = stage.taken;
            int end = tick + stage.work.at(part) * slowness.at(worker);
            stage.take(log.add(stage.output, part, worker, tick, end, false), end);
            idleFrom.set(worker, end);
        }

        private boolean takesCopy(Stage stage, int worker, int tick) {
            int part = stage.latestWithoutCopy(tick);
            if (part >= stage.tasks) {
                return false;
            }
            int end = tick + stage.work.at(part) * slowness.at(worker);
            if (end >= stage.ends.at(part)) {
                return false;
            }
            int first = stage.attempts.at(part);
            log.add(stage.output, part, worker, tick, end, true);
            log.ends.set(first, end);
            stage.copy(part, end);
            idleFrom.set(worker, end);
            idleFrom.set(log.workers.at(first), end);
            return true;
        }
    }

    /** The latest run. */
    private static final class Log {
        private final Ints outputs = new Ints(MOST_ATTEMPTS);
        private final Ints parts = new Ints(MOST_ATTEMPTS);
        private final Ints workers = new Ints(MOST_ATTEMPTS);
        private final Ints starts = new Ints(MOST_ATTEMPTS);
        private final Ints ends = new Ints(MOST_ATTEMPTS);
        private final Ints copies = new Ints(MOST_ATTEMPTS);
        int count;
        int ticks;
        int spilled;
        int crewSize;

        void begin(int workersOfRun) {
            count = 0;
            spilled = 0;
            crewSize = workersOfRun;
        }

        int add(int output, int part, int worker, int start, int end, boolean copy) {
            int attempt = count;
            outputs.set(attempt, output);
            parts.set(attempt, part);
            workers.set(attempt, worker);
            starts.set(attempt, start);
            ends.set(attempt, end);
            copies.set(attempt, copy ? 1 : 0);
            count++;
            return attempt;
        }

        int ticksOfAttempts() {
            int sum = 0;
            for (int attempt = 0; attempt < count; attempt++) {
                sum += ends.at(attempt) - starts.at(attempt);
            }
            return sum;
        }
    }
}
