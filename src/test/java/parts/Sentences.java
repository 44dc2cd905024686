import java.io.IOException;
import java.io.UncheckedIOException;
import java.nio.file.Files;
import java.nio.file.Path;
import java.util.ArrayList;
import java.util.List;
import java.util.function.Function;
import java.util.function.IntConsumer;

/**
 * Tests that name the promise and the sentence of the document that they hold. The sentence has to
 * stand in the document, and the sentences of the document have to have tests.
 */
abstract class Sentences extends Testing {
    static final String SEVERAL =
        "If several apply, the one that is named first in the throws clause is thrown.";
    static final String NOTHING = "A call that throws changes nothing.";
    static final String NO_NODE = "Throws IndexOutOfBoundsException if there is no such node";

    private static final int PROMISES = 37;

    /** The document's parts, without the marks of its form: the terms, and then each promise. */
    private static final List<String> PARTS = partsOfDocument();

    private record Held(int promise, String sentence) {
    }

    private static final List<Held> HELD = new ArrayList<>();

    private static List<String> partsOfDocument() {
        try {
            String text = Files.readString(Path.of("../shared/DOC.md")).replace("`", "");
            List<String> parts = new ArrayList<>(List.of(text.split("\n## Promise \\d+: ")));
            int last = parts.size() - 1;
            parts.set(last, parts.get(last).split("\n## ")[0]);
            return parts;
        } catch (IOException e) {
            throw new UncheckedIOException(e);
        }
    }

    static void holds(int promise, String sentence, Runnable test) {
        holds(promise, test, sentence);
    }

    static void holds(int promise, Runnable test, String... sentences) {
        int before = wrong;
        testing("promise " + promise + ", \"" + String.join(" ", sentences) + "\"", () -> {
            String both = (PARTS.get(0) + "\n" + PARTS.get(promise)).replaceAll("\\s+", " ");
            for (String sentence : sentences) {
                due("whether the document says: " + sentence, both.contains(sentence), true);
            }
            test.run();
        });
        if (wrong == before) {
            for (String sentence : sentences) {
                HELD.add(new Held(promise, sentence));
            }
        }
    }

    /** An object of so many nodes has none of these. */
    static void noSuchNode(int nodes, IntConsumer call) {
        for (int node : new int[] {-1, nodes, 14, MIN, MAX}) {
            throwing("node " + node, BOUNDS, () -> call.accept(node));
        }
    }

    static void noSuch(IntConsumer call, int... numbers) {
        for (int number : numbers) {
            throwing("number " + number, BOUNDS, () -> call.accept(number));
        }
    }

    static void outOfRange(IntConsumer call, int... arguments) {
        for (int argument : arguments) {
            throwing("argument " + argument, ARGUMENT, () -> call.accept(argument));
        }
    }

    /** Demands tests of what may be refused or has a limit: in each promise, and in the terms. */
    static void demandTestsOfBoundaries() {
        demandTests(Sentences::boundariesOf);
        for (String sentence : sentencesOfTerms()) {
            boolean tested = HELD.stream().anyMatch(h -> h.sentence.contains(sentence) || sentence.contains(h.sentence));
            due("\"" + sentence + "\"", tested, true);
        }
    }

    /** Demands tests of what each promise says that its call does, and what it returns. */
    static void demandTestsOfPurposes() {
        demandTests(Sentences::purposesOf);
    }

    private static void demandTests(Function<String, List<String>> sentences) {
        where = "sentences without a test that holds";
        due("promises in the document", PARTS.size() - 1, PROMISES);
        for (int promise = 1; promise < PARTS.size(); promise++) {
            for (String sentence : sentences.apply(PARTS.get(promise))) {
                int number = promise;
                boolean tested = HELD.stream().anyMatch(h -> h.promise == number && h.sentence.equals(sentence));
                due("promise " + promise + ", \"" + sentence + "\"", tested, true);
            }
        }
    }

    private static List<String> purposesOf(String promise) {
        List<String> all = new ArrayList<>();
        for (String line : promise.split("\n")) {
            boolean shown = line.matches("(\\S+ )?\\w+\\(.*?\\).*?: .*");
            if (shown || line.startsWith("Returns ")) {
                all.add(shown ? line.replaceFirst("^(\\S+ )?\\w+\\(.*?\\).*?: ", "") : line);
            }
        }
        return all;
    }

    private static List<String> boundariesOf(String promise) {
        List<String> all = new ArrayList<>();
        int exceptions = 0;
        for (String line : promise.split("\n")) {
            String text = line.replaceFirst("^- ", "").replaceFirst("^\\S+ \\w+\\(.*?: (?=Returns)", "");
            boolean limited = text.matches(".*\\d.*") && (line.startsWith("- ") || text.startsWith("Returns "));
            if (limited || text.startsWith("Throws ")) {
                all.add(text);
            }
            exceptions += text.startsWith("Throws ") ? 1 : 0;
        }
        if (exceptions > 0) {
            all.add(NOTHING);
        }
        if (exceptions > 1) {
            all.add(SEVERAL);
        }
        return all;
    }

    private static List<String> sentencesOfTerms() {
        String terms = PARTS.get(0);
        terms = terms.substring(terms.indexOf("### Nodes"), terms.indexOf("Ahead of the calls"));
        List<String> all = new ArrayList<>();
        for (String line : terms.split("\n")) {
            if (!line.startsWith("#") && !line.isBlank()) {
                all.addAll(List.of(line.split("(?<=[.;])\\)? ")));
            }
        }
        all.remove("Exceptions.");
        return all;
    }
}
