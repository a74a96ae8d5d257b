import java.io.IOException;
import java.nio.file.Files;
import java.nio.file.Path;
import java.util.ArrayList;
import java.util.LinkedHashMap;
import java.util.List;
import java.util.Map;
import java.util.function.BiFunction;
import java.util.function.Function;

/**
 * Runs the tests of single edges. Each stands under the words of ../shared/DOC.md that name its case, so that a test
 * can't outlive its sentence, and no sentence can stay without a test.
 */
final class Edges {
    private static final Map<String, String> SECTIONS = sections();
    private static final Map<String, List<String>> QUOTES = new LinkedHashMap<>();
    private static String heading = "";
    private static int edges;

    private Edges() {
    }

    static void introduction(String quote) {
        begin("What it is", quote);
    }

    static void terms(String quote) {
        begin("Terms", quote);
    }

    static void promise(int number, String quote) {
        begin("Promise " + number, quote);
    }

    private static void begin(String section, String quote) {
        heading = section + ", \"" + quote + "\", ";
        Check.within(heading);
        if (!SECTIONS.getOrDefault(section, "").contains(quote)) {
            Check.wrong("the document does not say this there");
        }
        QUOTES.computeIfAbsent(section, name -> new ArrayList<>()).add(quote);
    }

    static void edge(String name, Runnable test) {
        int before = Check.made();
        Check.within(heading + name + ": ");
        try {
            test.run();
        } catch (RuntimeException e) {
            Check.wrong("the test ended with " + e);
        }
        if (Check.made() == before) {
            Check.wrong("nothing was checked");
        }
        edges++;
    }

    /** An edge for each state in which no game is running: the call must be refused there. */
    static void needsGame(Function<PinballScorer, Object> call) {
        edge("on a new table", () -> refusedWithoutGame(new PinballScorer(), call));
        edge("before the first game", () -> refusedWithoutGame(Check.withPlayers(4), call));
        edge("after a game that was quit", () -> refusedWithoutGame(quitTable(), call));
        edge("after a game that is over", () -> refusedWithoutGame(overTable(), call));
        edge("after a start that was undone", () -> {
            PinballScorer x = Check.started(2);
            x.undo();
            refusedWithoutGame(x, call);
        });
    }

    private static void refusedWithoutGame(PinballScorer x, Function<PinballScorer, Object> call) {
        Check.refuses("the call", x, IllegalStateException.class, () -> call.apply(x));
    }

    /** An edge for each wrong index, in a game and without one: its exception is listed before the other one. */
    static void hasIndices(int count, BiFunction<PinballScorer, Integer, Object> call) {
        for (int index : new int[] {-1, count, Integer.MAX_VALUE, Integer.MIN_VALUE}) {
            edge("index " + index + " in a game", () -> refusedIndex(Check.started(4), index, call));
            edge("index " + index + " without a game", () -> refusedIndex(Check.withPlayers(4), index, call));
        }
        edge("index 0, the first", () -> answers(Check.started(4), 0, call));
        edge("index " + (count - 1) + ", the last", () -> answers(Check.started(4), count - 1, call));
    }

    private static void refusedIndex(PinballScorer x, int index, BiFunction<PinballScorer, Integer, Object> call) {
        Check.refuses("the call", x, IndexOutOfBoundsException.class, () -> call.apply(x, index));
    }

    static void answers(PinballScorer x, int argument, BiFunction<PinballScorer, Integer, Object> call) {
        String answer = Check.answerOf(() -> call.apply(x, argument));
        Check.equal("an answer instead of an exception", answer.startsWith("throws") ? answer : "given", "given");
    }

    static PinballScorer quitTable() {
        PinballScorer x = Check.started(2);
        x.quitGame();
        return x;
    }

    static PinballScorer overTable() {
        PinballScorer x = Check.started(2);
        Check.loseBalls(x, 6);
        return x;
    }

    /** A player's first hits of a ball, up to a score that is a multiple of 10: lane 0 and bumper 0 alone are hit. */
    static void scoreUpTo(PinballScorer x, int points) {
        int player = x.currentPlayer();
        x.hitLane(0);
        for (int i = 0; i < 100 && x.score(player) + x.bumperValue(0) <= points; i++) {
            x.hitBumper(0);
        }
        for (int i = 0; i < 20 && x.score(player) < points; i++) {
            x.hitLane(0);
        }
        Check.equal("the score to begin with", x.score(player), points);
    }

    /** Every sentence of the terms and every exception of a promise must be quoted, and something of each promise. */
    static void checkThatNothingIsLeftOut() {
        Check.within("");
        for (String sentence : sentences(SECTIONS.getOrDefault("Terms", ""))) {
            requireQuote("Terms", sentence);
        }
        for (Map.Entry<String, String> section : SECTIONS.entrySet()) {
            if (section.getKey().startsWith("Promise ")) {
                checkPromise(section.getKey(), section.getValue());
            }
        }
        System.out.println(edges + " edges");
    }

    private static void checkPromise(String name, String text) {
        for (String part : text.split(" (?=Throws `)")) {
            if (part.startsWith("Throws `")) {
                requireQuote(name, part);
            }
        }
        if (!QUOTES.containsKey(name)) {
            Check.wrong(name + " has no edge");
        }
    }

    private static void requireQuote(String section, String sentence) {
        for (String quote : QUOTES.getOrDefault(section, List.of())) {
            if (sentence.contains(quote) || quote.contains(sentence)) {
                return;
            }
        }
        Check.wrong(section + ", \"" + sentence + "\": no test quotes this");
    }

    /** One word alone, like "Lanes.", is a heading; and that threads are not promised anything needs no test. */
    private static List<String> sentences(String text) {
        List<String> found = new ArrayList<>();
        for (String sentence : text.replaceAll("Ahead of the calls .*", "").split("(?<=[.]) ")) {
            if (sentence.contains(" ") && !sentence.equals("It is not thread-safe.")) {
                found.add(sentence);
            }
        }
        return found;
    }

    private static Map<String, String> sections() {
        Map<String, String> found = new LinkedHashMap<>();
        try {
            String text = Files.readString(Path.of("../shared/DOC.md"));
            for (String section : text.split("(?m)^## ")) {
                String title = section.lines().findFirst().orElse("");
                String body = section.substring(title.length());
                found.put(title.replaceAll(":.*", ""), body.replaceAll("\\s+", " ").strip());
            }
        } catch (IOException e) {
            Check.wrong("the document can't be read: " + e);
        }
        return found;
    }
}
