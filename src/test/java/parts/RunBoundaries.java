import java.util.List;
import java.util.function.Function;
import java.util.function.ObjIntConsumer;

/** The boundary cases of the promises 25 to 37: stages, tasks, workers, and the latest run. */
final class RunBoundaries extends Sentences {
    private static final String NO_ATTEMPT = "Throws IndexOutOfBoundsException if there is no such attempt";

    static void all() {
        stages();
        outputOf();
        whatStagesThereAre();
        run();
        whatTasksRead();
        whatJoinsRead();
        workAndTicks();
        ticks();
        spilled();
        attempts();
        whoTakesWhat();
        whenCopiesMayBeTaken();
        whichCopiesAreTaken();
        ofAnAttempt();
        share();
    }

    /** The attempts of the latest run, which has ended when the last of them has. */
    private static String told(Taskgraphic x) {
        int latest = 0;
        int attempts = x.attempts();
        for (int attempt = 0; attempt < attempts; attempt++) {
            latest = Math.max(latest, x.endOf(attempt));
        }
        due("ticks()", x.ticks(), latest);
        return attempts(x);
    }

    /** Works a node out by one worker, so that the tasks come one after the other. */
    private static String alone(Taskgraphic x, int node) {
        x.setWorkers(1);
        x.run(node);
        return told(x);
    }

    /** As many tasks as workers of these slownesses, each of the work 1. */
    private static String together(int tasks, int... slowness) {
        Taskgraphic x = new Taskgraphic();
        x.source(tasks);
        x.setWorkers(slowness.length);
        slowness(x, slowness);
        x.run(0);
        return told(x);
    }

    /** A source without rows, and 13 groups, each of the one before. */
    private static Taskgraphic chainOf14() {
        Taskgraphic x = new Taskgraphic();
        x.source(1);
        for (int node = 1; node < 14; node++) {
            x.group(node - 1, 0, 1);
        }
        return x;
    }

    // ---- 25, 26

    private static void stages() {
        holds(25, "Returns how many; 0 if it is in the cache.", () -> {
            Taskgraphic x = chainOf14();
            for (int node = 0; node < 14; node++) {
                due("stages(" + node + ")", x.stages(node), node + 1);
            }
            x.mark(12, true);
            x.run(13);
            due("stages(12), in the cache", x.stages(12), 0);
            due("stages(13), behind one in the cache", x.stages(13), 1);
            due("stages(11), before one in the cache", x.stages(11), 12);
            x.setLimit(4);
            due("stages(12), no longer in the cache", x.stages(12), 13);
        });
        holds(25, NO_NODE, () -> {
            noSuchNode(0, new Taskgraphic()::stages);
            noSuchNode(8, busy()::stages);
            noSuchNode(14, with14Nodes()::stages);
        });
        holds(25, NOTHING, () -> changeNothing(Testing::busy, List.of(x -> x.stages(-1), x -> x.stages(8))));
    }

    private static void outputOf() {
        holds(26, "stage: 0 for the first stage", () -> {
            Taskgraphic x = chainOf14();
            for (int stage = 0; stage < 14; stage++) {
                due("outputOf(13, " + stage + ")", x.outputOf(13, stage), stage);
            }
            due("outputOf(0, 0)", x.outputOf(0, 0), 0);
        });
        holds(26, "Throws IndexOutOfBoundsException if there is no such node, or not so many stages", () -> {
            Taskgraphic x = chainOf14();
            noSuch(stage -> x.outputOf(13, stage), -1, 14, MIN, MAX);
            noSuch(stage -> x.outputOf(0, stage), -1, 1, MIN, MAX);
            noSuchNode(14, node -> x.outputOf(node, 0));
            noSuchNode(0, node -> new Taskgraphic().outputOf(node, 0));
            x.mark(12, true);
            x.run(12);
            noSuch(stage -> x.outputOf(12, stage), -1, 0, 1, 12);
            noSuch(stage -> x.outputOf(13, stage), -1, 1);
            due("outputOf(13, 0)", x.outputOf(13, 0), 13);
        });
        holds(26, NOTHING, () -> changeNothing(Testing::busy, List.of(x -> x.outputOf(8, 0), x -> x.outputOf(-1, 0),
            x -> x.outputOf(3, 0), x -> x.outputOf(5, -1), x -> x.outputOf(5, 2))));
    }

    private static void whatStagesThereAre() {
        holds(26, "there is one for the node itself, if it is not in the cache", () -> {
            Taskgraphic x = new Taskgraphic();
            sourceOf(x, 1, 2);
            due("not in the cache", outputs(x, 0), "0");
            x.mark(0, true);
            x.setRoom(2);
            x.run(0);
            due("in the cache", outputs(x, 0), "");
            x.setRoom(1);
            due("out of the cache", outputs(x, 0), "0");
        });
        holds(26, "for each stage, one for each node that it needs whole and that is not in the cache;", () -> {
            Taskgraphic x = new Taskgraphic();
            sourceOf(x, 1, 2);
            x.map(0, 0, 1);
            x.group(1, 0, 1);
            x.group(x.map(2, 0, 1), 0, 1);
            due("none in the cache", outputs(x, 4), "1 3 4");
            x.setRoom(100);
            x.mark(0, true);
            x.run(0);
            due("one in the cache that is not needed whole", outputs(x, 4), "1 3 4");
            x.mark(1, true);
            x.run(1);
            due("one in the cache that the second stage needs", outputs(x, 4), "3 4");
            x.mark(2, true);
            x.run(2);
            due("one in the cache that the tasks of a stage come to", outputs(x, 4), "3 4");
            x.mark(3, true);
            x.run(3);
            due("the one that is needed in the cache", outputs(x, 4), "4");
        });
        holds(26, "each node is the output of one stage at most", () -> {
            Taskgraphic x = new Taskgraphic();
            sourceOf(x, 1, 5);
            x.join(0, 0, 1);
            x.group(0, 0, 1);
            due("a join of the same twice", outputs(x, 1), "0 1");
            due("two that need the same", outputs(x, x.union(2, 1)), "0 3");
            due("one that needs what its input needs", outputs(x, x.join(2, 0, 1)), "0 2 4");
        });
        holds(26, "the stages come by rising numbers of their outputs.", () -> {
            Taskgraphic x = new Taskgraphic();
            sourceOf(x, 1, 5);
            sourceOf(x, 1, 5);
            x.group(1, 0, 1);
            x.group(0, 0, 1);
            x.join(3, 2, 1);
            due("the greater numbers are the first inputs", outputs(x, 4), "0 1 2 3 4");
            alone(x, 4);
            due("the first attempt", x.nodeOf(0), 0);
            due("the last attempt", x.nodeOf(4), 4);
        });
        holds(26, "A stage needs whole the inputs of groups and of joins that are not broad,"
            + " and the second inputs of broad joins, which its tasks come to in this way.", () -> {
                Taskgraphic x = new Taskgraphic();
                sourceOf(x, 1, 1);
                sourceOf(x, 1, 4);
                x.map(x.join(0, 1, 2), 0, 1);
                due("broad, just at the limit", outputs(x, 3), "1 3");
                x.put(1, 4, 4);
                due("not broad, just above the limit", outputs(x, 3), "0 1 3");
                due("a group without rows", outputs(x, x.group(x.source(1), 0, 1)), "4 5");
                due("a broad join without rows", outputs(x, x.join(4, 4, 1)), "4 6");
                x.setRoom(100);
                x.mark(3, true);
                x.run(3);
                due("none behind one in the cache", outputs(x, x.filter(3, 0, 0)), "7");
            });
    }

    // ---- 27

    private static void run() {
        holds(27, "Returns the tick at which the last stage has ended; 0 if there is no stage.", () -> {
            Taskgraphic x = chainOf14();
            due("run(13)", x.run(13), 14);
            due("attempts()", x.attempts(), 14);
            due("run(0)", x.run(0), 1);
            x.mark(13, true);
            due("run(13), and into the cache", x.run(13), 14);
            due("run(13), no stage", x.run(13), 0);
            due("attempts()", x.attempts(), 0);
        });
        holds(27, NO_NODE, () -> {
            noSuchNode(0, new Taskgraphic()::run);
            noSuchNode(8, busy()::run);
            noSuchNode(14, with14Nodes()::run);
        });
        holds(27, NOTHING, () -> changeNothing(Testing::busy, List.of(x -> x.run(-1), x -> x.run(8))));
        holds(27, "A stage has a task for each partition of its output.", () -> {
            Taskgraphic x = new Taskgraphic();
            x.source(1);
            due("of 1", alone(x, 0), "0.0 w0 0-1");
            x.union(x.source(4), 1);
            due("of 8", alone(x, 2), "2.0 w0 0-1, 2.1 w0 1-2, 2.2 w0 2-3, 2.3 w0 3-4,"
                + " 2.4 w0 4-5, 2.5 w0 5-6, 2.6 w0 6-7, 2.7 w0 7-8");
            x.join(0, 0, 4);
            due("of a broad join that was told 4", alone(x, 3), "0.0 w0 0-1, 3.0 w0 1-2");
            due("of a group without rows", alone(x, x.group(0, 0, 4)),
                "0.0 w0 0-1, 4.0 w0 1-2, 4.1 w0 2-3, 4.2 w0 3-4, 4.3 w0 4-5");
        });
    }

    private static void whatTasksRead() {
        holds(27, "of a source, and of any node in the cache, the rows of the partition;", () -> {
            Taskgraphic x = new Taskgraphic();
            sourceOf(x, 3, 4);
            due("2, 1 and 1 rows", alone(x, 0), "0.0 w0 0-3, 0.1 w0 3-5, 0.2 w0 5-7");
            due("no rows", alone(x, x.source(2)), "1.0 w0 0-1, 1.1 w0 1-2");
            x.filter(0, 1, 0);
            x.map(2, 0, 0);
            due("no rows left", alone(x, 3), "3.0 w0 0-3, 3.1 w0 3-5, 3.2 w0 5-7");
            x.mark(2, true);
            x.run(2);
            due("no rows in the cache", alone(x, 3), "3.0 w0 0-1, 3.1 w0 1-2, 3.2 w0 2-3");
        });
        holds(27, "of a map or filter what it reads of the partition i of its input;", () -> {
            Taskgraphic x = new Taskgraphic();
            sourceOf(x, 2, 3);
            due("a filter that leaves no row", alone(x, x.filter(0, 1, 0)), "1.0 w0 0-3, 1.1 w0 3-5");
            due("a map of it", alone(x, x.map(1, 0, 0)), "2.0 w0 0-3, 2.1 w0 3-5");
        });
        holds(27, "of a union what it reads of the partition that it stands for;", () -> {
            Taskgraphic x = new Taskgraphic();
            sourceOf(x, 2, 3);
            sourceOf(x, 2, 1);
            due("2, 1, 1 and no rows", alone(x, x.union(0, 1)), "2.0 w0 0-3, 2.1 w0 3-5, 2.2 w0 5-7, 2.3 w0 7-8");
            x.union(x.join(1, 0, 4), 0);
            due("2 partitions of a broad join, and 2 of a source", alone(x, 4),
                "0.0 w0 0-3, 0.1 w0 3-5, 4.0 w0 5-10, 4.1 w0 10-14, 4.2 w0 14-17, 4.3 w0 17-19");
            x.setLimit(2);
            due("4 partitions of the join, and 2 of a source", alone(x, 4),
                "0.0 w0 0-3, 0.1 w0 3-5, 1.0 w0 5-7, 1.1 w0 7-8,"
                    + " 4.0 w0 8-11, 4.1 w0 11-13, 4.2 w0 13-15, 4.3 w0 15-16, 4.4 w0 16-19, 4.5 w0 19-21");
        });
        holds(27, "of a group the rows of its input whose keys have the share i;", () -> {
            Taskgraphic x = new Taskgraphic();
            sourceOfKeys(x, 1, -1, MIN, MAX, 0, 3, -3);
            due("3, 2 and 1 rows", alone(x, x.group(0, 3, 3)), "0.0 w0 0-7, 1.0 w0 7-11, 1.1 w0 11-14, 1.2 w0 14-16");
            sourceOfKeys(x, 1, 2, 2, 2);
            due("3 rows of one key", alone(x, x.group(2, 3, 2)), "2.0 w0 0-4, 3.0 w0 4-8, 3.1 w0 8-9");
        });
    }

    private static void whatJoinsRead() {
        holds(27, "of a broad join what it reads of the partition i of the first input, and all rows of the second one;", () -> {
            Taskgraphic x = new Taskgraphic();
            sourceOf(x, 2, 3);
            sourceOf(x, 1, 4);
            due("2 and 1 rows, and 4", alone(x, x.join(0, 1, 1)), "1.0 w0 0-5, 2.0 w0 5-12, 2.1 w0 12-18");
            x.source(1);
            due("the second without rows", alone(x, x.join(0, 3, 1)), "3.0 w0 0-1, 4.0 w0 1-4, 4.1 w0 4-6");
            due("the first without rows", alone(x, x.join(3, 1, 1)), "1.0 w0 0-5, 5.0 w0 5-10");
            due("of the same", alone(x, x.join(1, 1, 1)), "1.0 w0 0-5, 6.0 w0 5-14");
            x.setRoom(100);
            x.mark(0, true);
            x.run(0);
            due("the first in the cache", alone(x, 2), "1.0 w0 0-5, 2.0 w0 5-12, 2.1 w0 12-18");
            x.mark(1, true);
            x.run(1);
            due("both in the cache", alone(x, 2), "2.0 w0 0-7, 2.1 w0 7-13");
        });
        holds(27, "of another join the rows of both inputs whose keys have the share i.", () -> {
            Taskgraphic x = new Taskgraphic();
            sourceOf(x, 2, 3);
            sourceOf(x, 1, 5);
            due("2 and 3, and 1 and 2 rows", alone(x, x.join(0, 1, 2)),
                "0.0 w0 0-3, 0.1 w0 3-5, 1.0 w0 5-11, 2.0 w0 11-17, 2.1 w0 17-21");
            due("of the same", alone(x, x.join(1, 1, 2)), "1.0 w0 0-6, 3.0 w0 6-13, 3.1 w0 13-18");
            x.setRoom(100);
            x.mark(0, true);
            x.run(0);
            due("the first in the cache", alone(x, 2), "1.0 w0 0-6, 2.0 w0 6-12, 2.1 w0 12-16");
            x.source(1);
            due("the first without rows", alone(x, x.join(4, 1, 4)),
                "1.0 w0 0-6, 4.0 w0 6-7, 5.0 w0 7-10, 5.1 w0 10-12, 5.2 w0 12-14, 5.3 w0 14-16");
        });
    }

    private static void workAndTicks() {
        holds(27, "The work of a task is 1, and 1 for each row that it reads,"
            + " and 1 more for each of these above the memory, which is 20 at first;", () -> {
                Taskgraphic x = new Taskgraphic();
                sourceOf(x, 1, 12);
                sourceOf(x, 1, 8);
                x.group(x.union(0, 1), 3, 1);
                due("20 rows", alone(x, 3), "2.0 w0 0-13, 2.1 w0 13-22, 3.0 w0 22-43");
                x.put(1, 8, 0);
                due("21 rows", alone(x, 3), "2.0 w0 0-13, 2.1 w0 13-23, 3.0 w0 23-46");
                due("no rows", alone(x, x.source(1)), "4.0 w0 0-1");
            });
        holds(27, "A worker takes as many ticks for a task as its work times its slowness.", () -> {
            Taskgraphic x = new Taskgraphic();
            sourceOf(x, 1, 12);
            x.setSlowness(0, 9);
            due("13 times 9", alone(x, 0), "0.0 w0 0-117");
            x.setMemory(0);
            due("25 times 9", alone(x, 0), "0.0 w0 0-225");
            x.source(1);
            due("1 times 9", alone(x, 1), "1.0 w0 0-9");
        });
        holds(27, "A stage begins at the tick at which the one before it has ended, the first one at the tick 0.", () -> {
            Taskgraphic x = new Taskgraphic();
            sourceOf(x, 2, 3);
            x.group(0, 0, 2);
            x.run(1);
            due("attempts", told(x), "0.0 w0 0-3, 0.1 w1 0-2, 1.0 w0 3-6, 1.1 w1 3-5");
        });
        holds(27, "To work a node out, stages are run one after the other;", () -> {
            Taskgraphic x = new Taskgraphic();
            sourceOf(x, 1, 2);
            x.source(1);
            x.union(x.group(0, 0, 1), x.group(1, 0, 1));
            x.run(4);
            due("two stages that need nothing of one another", told(x),
                "0.0 w0 0-3, 1.0 w0 3-4, 4.0 w0 4-7, 4.1 w1 4-5");
        });
        holds(27, "A stage has ended when all of its tasks have.", () -> {
            Taskgraphic x = new Taskgraphic();
            sourceOf(x, 3, 4);
            x.setWorkers(3);
            due("the first task is the last to end", x.run(0), 3);
            x.setSlowness(2, 2);
            due("the last task is the last to end", x.run(0), 4);
        });
    }

    // ---- 28, 29

    private static void ticks() {
        holds(28, "Returns the tick at which the latest run has ended; 0 if there was none.", () -> {
            Taskgraphic x = chainOf14();
            due("before the first run", x.ticks(), 0);
            x.stages(13);
            due("behind stages(13)", x.ticks(), 0);
            x.run(13);
            due("ticks()", x.ticks(), 14);
            throwing("run(14)", BOUNDS, () -> x.run(14));
            due("behind one that throws", x.ticks(), 14);
            x.mark(0, true);
            x.run(0);
            due("of 1", x.ticks(), 1);
            x.run(0);
            due("of a run without a stage", x.ticks(), 0);
        });
    }

    private static void spilled() {
        holds(29, "Returns how many rows were spilled in the latest run, copies not counted.", () -> {
            Taskgraphic x = new Taskgraphic();
            sourceOf(x, 2, 5);
            due("before the first run", x.spilled(), 0);
            x.setMemory(0);
            x.setSlowness(1, 9);
            x.run(0);
            due("attempts, a copy with them", x.attempts(), 3);
            due("of all rows", x.spilled(), 5);
            x.setMemory(1000);
            x.run(0);
            due("of none", x.spilled(), 0);
            x.setMemory(2);
            throwing("run(1)", BOUNDS, () -> x.run(1));
            x.run(0);
            due("of one", x.spilled(), 1);
            x.mark(0, true);
            x.setRoom(5);
            x.run(0);
            x.run(0);
            due("of a run without a stage", x.spilled(), 0);
        });
        holds(29, "those above it are spilled.", () -> {
            Taskgraphic x = new Taskgraphic();
            sourceOf(x, 1, 12);
            sourceOf(x, 1, 8);
            x.group(x.union(0, 1), 3, 1);
            x.run(3);
            due("of 20 rows", x.spilled(), 0);
            x.put(1, 8, 0);
            x.run(3);
            due("of 21 rows", x.spilled(), 1);
            x.setMemory(8);
            x.run(3);
            due("of 12, 9 and 21 rows above 8", x.spilled(), 4 + 1 + 13);
        });
    }

    // ---- 30

    private static void attempts() {
        holds(30, "Returns how many attempts there were in the latest run: tasks, and copies of tasks."
            + " They are numbered from 0 as they were taken.", () -> {
                Taskgraphic x = new Taskgraphic();
                due("before the first run", x.attempts(), 0);
                x.source(2);
                x.run(0);
                due("two tasks", x.attempts(), 2);
                x.setSlowness(1, 9);
                x.run(0);
                due("two tasks and a copy", told(x), "0.0 w0 0-1, 0.1 w1 0-2, 0.1 w0 1-2*");
                x.mark(0, true);
                x.run(0);
                x.run(0);
                due("of a run without a stage", x.attempts(), 0);
            });
        holds(30, "no node has a width above 8", () -> {
            Taskgraphic x = widestChain();
            x.setWorkers(1);
            due("run(13)", x.run(13), 56);
            due("attempts()", x.attempts(), 56);
            due("the output of the last one", x.nodeOf(55), 13);
            due("the partition of the last one", x.partitionOf(55), 7);
            x.setWorkers(4);
            slowness(x, 1, 9, 9, 9);
            // Of each stage the worker 0 takes 5 tasks, and then, tick by tick, copies of the 3 others.
            due("run(13) with copies", x.run(13), 7 * 8);
            due("attempts() with copies", x.attempts(), 7 * 11);
            due("the last one is a copy", x.isCopy(76), true);
        });
    }

    /** Seven stages of 8 tasks each, without rows. */
    private static Taskgraphic widestChain() {
        Taskgraphic x = new Taskgraphic();
        x.source(4);
        x.union(0, 0);
        for (int node = 1; node < 13; node += 2) {
            x.group(node, 0, 4);
            x.union(node + 1, 0);
        }
        return x;
    }

    private static void whoTakesWhat() {
        holds(30, "At each tick of a stage, tasks that end then have ended;", () ->
            due("the first of two ends at 1", together(2, 1, 9), "0.0 w0 0-1, 0.1 w1 0-2, 0.1 w0 1-2*"));
        holds(30, "then each idle worker, by rising numbers, takes the next task, by rising partitions,"
            + " that nobody has taken;", () -> {
                due("two idle ones at 1", together(4, 1, 1), "0.0 w0 0-1, 0.1 w1 0-1, 0.2 w0 1-2, 0.3 w1 1-2");
                due("the first one is the last to be idle", together(4, 3, 1),
                    "0.0 w0 0-3, 0.1 w1 0-1, 0.2 w1 1-2, 0.3 w1 2-3");
                due("more workers than tasks", together(1, 9, 1, 1, 1), "0.0 w0 0-9");
                due("one worker", together(3, 2), "0.0 w0 0-2, 0.1 w0 2-4, 0.2 w0 4-6");
            });
        holds(30, "The task ends with its copy then, and both workers are idle from that tick on.", () -> {
            due("the one of the task takes a copy then", copiesBehindACopy(4),
                "1.0 w0 0-19, 1.1 w1 0-1, 1.2 w2 0-35, 1.3 w3 0-9, 1.0 w1 9-19*, 1.2 w0 19-35*");
            due("the one of the copy takes another then", copiesBehindACopy(9),
                "1.0 w0 0-19, 1.1 w1 0-1, 1.2 w2 0-23, 1.3 w3 0-9, 1.0 w1 9-19*, 1.2 w1 19-23*");
        });
    }

    /** A group with its input in the cache, whose tasks have the works 10, 1, 4 and 1. */
    private static String copiesBehindACopy(int slownessOfTheFirst) {
        Taskgraphic x = new Taskgraphic();
        sourceOfKeys(x, 1, 0, 0, 0, 0, 0, 0, 0, 0, 0, 2, 2, 2);
        x.group(0, 0, 4);
        x.setRoom(12);
        x.mark(0, true);
        x.run(0);
        x.setWorkers(4);
        slowness(x, slownessOfTheFirst, 1, 9, 9);
        x.run(1);
        return told(x);
    }

    private static void whenCopiesMayBeTaken() {
        holds(30, "if there is none", () ->
            due("half have ended at 2, but a task is left", together(4, 1, 9),
                "0.0 w0 0-1, 0.1 w1 0-4, 0.2 w0 1-2, 0.3 w0 2-3, 0.1 w0 3-4*"));
        holds(30, "at least half of the tasks of the stage have ended", () -> {
            due("1 of 2", together(2, 1, 9), "0.0 w0 0-1, 0.1 w1 0-2, 0.1 w0 1-2*");
            due("1 of 3, and then 2", together(3, 1, 9, 5), "0.0 w0 0-1, 0.1 w1 0-6, 0.2 w2 0-5, 0.1 w0 5-6*");
            due("1 of 4, and then 2", together(4, 1, 9, 9, 2),
                "0.0 w0 0-1, 0.1 w1 0-3, 0.2 w2 0-4, 0.3 w3 0-2, 0.1 w0 2-3*, 0.2 w3 2-4*");
            due("none of 1", together(1, 9, 1), "0.0 w0 0-9");
        });
        holds(30, "it takes a copy of it, if that ends earlier.", () -> {
            due("at the same tick", together(2, 1, 2), "0.0 w0 0-1, 0.1 w1 0-2");
            due("a tick earlier", together(2, 1, 3), "0.0 w0 0-1, 0.1 w1 0-2, 0.1 w0 1-2*");
            due("at the same tick, more slowly", together(2, 4, 8), "0.0 w0 0-4, 0.1 w1 0-8");
            due("a tick earlier, more slowly", together(2, 4, 9), "0.0 w0 0-4, 0.1 w1 0-8, 0.1 w0 4-8*");
            Taskgraphic x = new Taskgraphic();
            sourceOf(x, 2, 12);
            x.setMemory(0);
            slowness(x, 5, 9);
            x.run(0);
            due("13 ticks later, for 52 ticks", told(x), "0.0 w0 0-65, 0.1 w1 0-117");
        });
    }

    private static void whichCopiesAreTaken() {
        holds(30, "without a copy so far", () -> {
            due("another worker would be faster", together(2, 2, 9, 1), "0.0 w0 0-2, 0.1 w1 0-4, 0.1 w0 2-4*");
            due("a third worker", together(2, 1, 9, 1), "0.0 w0 0-1, 0.1 w1 0-2, 0.1 w0 1-2*");
            Taskgraphic x = new Taskgraphic();
            sourceOf(x, 3, 12);
            x.source(2);
            slowness(x, 9, 9);
            x.run(0);
            x.setWorkers(3);
            slowness(x, 2, 9, 1);
            x.run(1);
            due("no third task, as the run before had one", told(x), "1.0 w0 0-2, 1.1 w1 0-4, 1.1 w0 2-4*");
        });
        holds(30, "it looks at the one that would end the latest, of several at the lowest partition;", () -> {
            due("two that end the latest", together(4, 1, 9, 9, 1),
                "0.0 w0 0-1, 0.1 w1 0-2, 0.2 w2 0-2, 0.3 w3 0-1, 0.1 w0 1-2*, 0.2 w3 1-2*");
            due("the greater partition ends the latest", together(4, 1, 8, 9, 1),
                "0.0 w0 0-1, 0.1 w1 0-2, 0.2 w2 0-2, 0.3 w3 0-1, 0.2 w0 1-2*, 0.1 w3 1-2*");
            due("the lesser partition ends the latest", together(4, 1, 9, 8, 1),
                "0.0 w0 0-1, 0.1 w1 0-2, 0.2 w2 0-2, 0.3 w3 0-1, 0.1 w0 1-2*, 0.2 w3 1-2*");
        });
        holds(30, "A stage has ended when all of its tasks have.", () ->
            due("8 tasks, 3 of them with copies", copiesOfThree(), "3.0 w0 0-2, 3.1 w1 0-20, 3.2 w2 0-30, 3.3 w3 0-40,"
                + " 3.4 w0 2-4, 3.5 w0 4-6, 3.6 w0 6-8, 3.7 w0 8-10, 3.1 w0 10-20*, 3.2 w0 20-30*, 3.3 w0 30-40*"));
        holds(30, "At each tick of a stage", () -> {
            Taskgraphic x = withCopies();
            // At 4 the worker 0 refuses the latest task, and 1 takes it; so at 5 the worker 0 looks at another one.
            due("attempts", told(x),
                "1.0 w0 0-4, 1.1 w1 0-4, 1.2 w2 0-10, 1.3 w3 0-13, 1.2 w1 4-10*, 1.3 w0 5-13*");
        });
    }

    /** A union of a group of 0, 4, 4 and 4 rows, with its source in the cache, and of a source without rows. */
    private static String copiesOfThree() {
        Taskgraphic x = new Taskgraphic();
        sourceOfKeys(x, 1, 1, 1, 1, 1, 2, 2, 2, 2, 3, 3, 3, 3);
        x.source(4);
        x.union(x.group(0, 0, 4), 1);
        x.setRoom(12);
        x.mark(0, true);
        x.run(0);
        x.setWorkers(4);
        slowness(x, 2, 9, 9, 9);
        x.run(3);
        return told(x);
    }

    /** A group of 0, 3, 5 and 1 rows, with its source in the cache, on workers of unlike slowness. */
    private static Taskgraphic withCopies() {
        Taskgraphic x = new Taskgraphic();
        sourceOfKeys(x, 1, 1, 5, 9, 2, 6, 10, 14, 18, 3);
        x.group(0, 0, 4);
        x.setRoom(9);
        x.mark(0, true);
        x.run(0);
        x.setWorkers(4);
        slowness(x, 4, 1, 4, 9);
        x.run(1);
        return x;
    }

    // ---- 31 to 36

    private static void ofAnAttempt() {
        answers(31, "Returns the node.", Taskgraphic::nodeOf, 1, 1, 1, 1, 1, 1);
        answers(32, "Returns the partition.", Taskgraphic::partitionOf, 0, 1, 2, 3, 2, 3);
        answers(33, "Returns the worker.", Taskgraphic::workerOf, 0, 1, 2, 3, 1, 0);
        answers(34, "Returns the tick.", Taskgraphic::startOf, 0, 0, 0, 0, 4, 5);
        answers(35, "Returns the tick.", Taskgraphic::endOf, 4, 4, 10, 13, 10, 13);
        answers(36, "Returns whether it was.", Taskgraphic::isCopy, false, false, false, false, true, true);
        refuses(31, Taskgraphic::nodeOf);
        refuses(32, Taskgraphic::partitionOf);
        refuses(33, Taskgraphic::workerOf);
        refuses(34, Taskgraphic::startOf);
        refuses(35, Taskgraphic::endOf);
        refuses(36, Taskgraphic::isCopy);
    }

    private interface OfAttempt {
        Object of(Taskgraphic x, int attempt);
    }

    private static void answers(int promise, String sentence, OfAttempt call, Object... due) {
        holds(promise, sentence, () -> {
            Taskgraphic x = withCopies();
            for (int attempt = 0; attempt < due.length; attempt++) {
                due("of attempt " + attempt, call.of(x, attempt), due[attempt]);
            }
        });
    }

    private static void refuses(int promise, ObjIntConsumer<Taskgraphic> call) {
        holds(promise, NO_ATTEMPT, () -> {
            Taskgraphic before = new Taskgraphic();
            before.source(1);
            noSuch(attempt -> call.accept(before, attempt), -1, 0, 1, MIN, MAX);
            Taskgraphic x = withCopies();
            noSuch(attempt -> call.accept(x, attempt), -1, 6, 7, MIN, MAX);
            x.source(1);
            x.run(2);
            noSuch(attempt -> call.accept(x, attempt), -1, 1, 5);
            call.accept(x, 0);
            x.run(0);
            noSuch(attempt -> call.accept(x, attempt), -1, 0, 1);
        });
        holds(promise, NOTHING, () -> changeNothing(Testing::busy, List.of(x -> call.accept(x, -1),
            x -> call.accept(x, 100), x -> call.accept(x, MIN), x -> call.accept(x, MAX))));
    }

    // ---- 37

    private static float shareOf(int tasks, Function<Taskgraphic, Integer> setting) {
        Taskgraphic x = new Taskgraphic();
        x.source(tasks);
        setting.apply(x);
        x.run(0);
        return x.share();
    }

    private static void share() {
        holds(37, "Returns the share; 0.0 if the run took no ticks, or there was none.", () -> {
            Taskgraphic x = new Taskgraphic();
            due("before the first run", x.share(), 0.0f);
            x.source(1);
            x.mark(0, true);
            x.run(0);
            due("of one of two workers", x.share(), 0.5f);
            x.run(0);
            due("of a run without a stage", x.share(), 0.0f);
        });
        holds(37, "the sum of the ticks of all attempts, as a float, divided by the ticks of the run"
            + " times the number of workers that it had, as a float.", () -> {
                due("of 1 task and 1 worker", shareOf(1, x -> x.setWorkers(1)), 1.0f);
                due("of 1 task and 3 workers", shareOf(1, x -> x.setWorkers(3)), 0.33333334f);
                due("of 2 tasks and 3 workers", shareOf(2, x -> x.setWorkers(3)), 0.6666667f);
                due("of 3 tasks and 2 workers", shareOf(3, x -> x.setWorkers(2)), 0.75f);
                due("of 4 tasks and 1 worker", shareOf(4, x -> x.setWorkers(1)), 1.0f);
                due("of a copy and two workers", shareOf(2, x -> x.setSlowness(1, 9)), 1.0f);
                Taskgraphic x = withCopies();
                due("of copies", x.share(), 45.0f / 52.0f);
                x.setWorkers(1);
                slowness(x, 9, 9, 9, 9);
                due("behind other settings", x.share(), 45.0f / 52.0f);
                throwing("run(2)", BOUNDS, () -> x.run(2));
                due("behind one that throws", x.share(), 45.0f / 52.0f);
            });
    }
}
