import java.io.IOException;
import java.io.UncheckedIOException;
import java.nio.file.Files;
import java.nio.file.Path;
import java.util.List;

/** The example of README.md stands here line by line, and answers what README.md says. */
public final class ReadmeTests extends Testing {
    private static void example() {
        // the example begins
        Taskgraphic x = new Taskgraphic();

        // Nodes: each call that makes one answers its number.
        int sales = x.source(2);                // a source of two partitions
        x.put(sales, 3, 30);                    // a row: the key 3, the value 30
        x.put(sales, 8, 1);
        x.put(sales, 3, 12);
        int large = x.filter(sales, 10, 99);    // the rows with values from 10 to 99
        int sums = x.group(large, 0, 2);        // the sums of their values, by keys, in two partitions
        int sum = x.valueAt(sums, 1, 0);        // 42: the key 3 is in the partition 1, since 3 modulo 2 is 1

        // Settings: they hold for the runs that come.
        int workers = x.setWorkers(3);          // 2: so many they were before
        x.setSlowness(0, 4);                    // the worker 0 takes four ticks for what others do in one
        x.setMemory(1);                         // what a task reads above one row is spilled
        x.setRoom(100);                         // room in the cache, for nodes that are marked
        x.mark(large, true);

        // Runs: each works a node out, and is told until the next one.
        int stages = x.stages(sums);            // 2: one for the filter, one for the group
        int ticks = x.run(sums);                // 10
        int attempts = x.attempts();            // 5: four tasks, and a copy of one that took long
        int output = x.nodeOf(1);               // 1, the filter: its partition 1 was worked out
        int worker = x.workerOf(1);             // by the worker 1
        int start = x.startOf(1);               // from the tick 0
        int end = x.endOf(1);                   // to the tick 2
        boolean copy = x.isCopy(2);             // true: then the worker 1 started the partition 0 once more
        int spilled = x.spilled();              // 2
        int again = x.run(sums);                // 4: the filter is in the cache by now
        // the example ends
        due("sum", sum, 42);
        due("workers", workers, 2);
        due("stages", stages, 2);
        due("ticks", ticks, 10);
        due("attempts", attempts, 5);
        due("output", output, 1);
        due("worker", worker, 1);
        due("start", start, 0);
        due("end", end, 2);
        due("copy", copy, true);
        due("spilled", spilled, 2);
        due("again", again, 4);
    }

    private static String between(String file, String begin, String end) {
        try {
            List<String> lines = Files.readAllLines(Path.of(file)).stream().map(String::strip).toList();
            int from = lines.indexOf(begin) + 1;
            return String.join("\n", lines.subList(from, from + lines.subList(from, lines.size()).indexOf(end)));
        } catch (IOException e) {
            throw new UncheckedIOException(e);
        }
    }

    private static void sameLines() {
        String here = "src/test/java/ReadmeTests.java";
        String tested = between(here, "// the example begins", "// the example ends");
        due("the example of README.md", between("README.md", "```java", "```"), tested);
    }

    public static void main(String[] args) {
        testing("the example", ReadmeTests::example);
        testing("README.md", ReadmeTests::sameLines);
        end("the example holds");
    }
}
