import java.util.ArrayDeque;
import java.util.Deque;

/**
 * Long mixed runs, the same ones every time: each call must agree with what was foretold before it, undo and
 * restore must bring back the very state that was seen before, and a call that throws must change nothing.
 */
public final class RandomRunsTest {
    private static final int RUNS = 300;
    private static final int CHANGES = 400;
    private static final int[] WRONG = {-1, 3, 4, 5, 6, 7, Integer.MAX_VALUE, Integer.MIN_VALUE};

    private final PinballScorer x = new PinballScorer();
    private final Deque<String> before = new ArrayDeque<>();
    private String saved;
    private long seed;

    private RandomRunsTest(int run) {
        seed = run;
    }

    public static void main(String[] args) {
        for (int run = 1; run <= RUNS; run++) {
            RandomRunsTest test = new RandomRunsTest(run);
            for (int i = 0; i < CHANGES; i++) {
                test.step();
            }
        }
        Check.finish();
    }

    private int next(int bound) {
        seed = seed * 6364136223846793005L + 1442695040888963407L;
        return (int) ((seed >>> 33) % bound);
    }

    private void step() {
        checkPredictions();
        int choice = next(40);
        if (choice < 24) {
            hit(next(3), next(20) == 0 ? WRONG[next(WRONG.length)] : next(5));
        } else if (choice < 29) {
            nudge(next(5));
        } else if (choice < 32) {
            drain();
        } else if (choice < 34) {
            undo();
        } else if (choice < 36) {
            script();
        } else {
            other(choice == 36 ? next(12) : next(3));
        }
    }

    private void checkPredictions() {
        Check.equal("isConsistent", x.isConsistent(), true);
        if (!x.isRunning()) {
            return;
        }
        Check.equal("lanes both ways", x.laneRun(), x.laneRunByCounting());
        int hits = next(51);
        Check.equal("bumpers both ways", x.bumperRun(2, hits), x.bumperRunBySeries(2, hits));
    }

    private void remember(String state) {
        before.addLast(state);
        if (before.size() > 8) {
            before.removeFirst();
        }
    }

    private String refusal(Class<? extends RuntimeException> exception) {
        return "throws " + exception.getName();
    }

    private void hit(int kind, int index) {
        String state = Check.state(x);
        int sum = x.pointsTotal();
        int kindSum = x.pointsOf("lbt".charAt(kind));
        String answer = Check.answerOf(() -> hitOf(kind, index));
        if (index < 0 || index >= new int[] {4, 3, 5}[kind]) {
            Check.equal("a wrong hit", answer, refusal(IndexOutOfBoundsException.class));
            Check.equal("its state", Check.state(x), state);
        } else if (!state.startsWith("running=true")) {
            Check.equal("a hit without a game", answer, refusal(IllegalStateException.class));
            Check.equal("its state", Check.state(x), state);
        } else {
            remember(state);
            int points = Integer.parseInt(answer);
            Check.equal("the total", x.pointsTotal(), sum + points);
            Check.equal("the kind's points", x.pointsOf("lbt".charAt(kind)), kindSum + points);
            Check.equal("tilted balls score nothing", points == 0, x.isTilted());
        }
    }

    private int hitOf(int kind, int index) {
        if (kind == 0) {
            return x.hitLane(index);
        }
        return kind == 1 ? x.hitBumper(index) : x.hitTarget(index);
    }

    private void nudge(int force) {
        String state = Check.state(x);
        String answer = Check.answerOf(() -> x.nudge(force));
        if (force < 1 || force > 3) {
            Check.equal("a wrong nudge", answer, refusal(IllegalArgumentException.class));
        } else if (!x.isRunning()) {
            Check.equal("a nudge without a game", answer, refusal(IllegalStateException.class));
        } else {
            remember(state);
            Check.equal("the warnings", answer, String.valueOf(x.warnings()));
            Check.equal("the tilt", x.isTilted(), x.warnings() == 3);
            return;
        }
        Check.equal("its state", Check.state(x), state);
    }

    private void drain() {
        String state = Check.state(x);
        if (!x.isRunning()) {
            Check.equal("a drain without a game", Check.answerOf(x::drain), refusal(IllegalStateException.class));
            return;
        }
        boolean isSaved = x.wouldBeSaved();
        String player = Check.answerOf(x::nextPlayer);
        int scores = (int) Math.round(x.meanScore() * x.playerCount());
        int bonus = x.bonusIfDrained();
        Check.equal("the bonus", x.drain(), bonus);
        remember(state);
        Check.equal("the scores", (int) Math.round(x.meanScore() * x.playerCount()), scores + bonus);
        if (isSaved) {
            Check.equal("a saved ball", Check.state(x), state.replace("saved=true", "saved=false"));
        } else if (x.isRunning()) {
            Check.equal("a new ball", x.hits() + "/" + x.multiplier() + "/" + x.wouldBeSaved(), "0/1/true");
            Check.equal("the next player", String.valueOf(x.currentPlayer()), player);
        } else {
            Check.equal("over", player, refusal(java.util.NoSuchElementException.class));
            Check.equal("records of it", x.recordCount() >= Math.min(x.playerCount(), 5), true);
        }
    }

    private void undo() {
        if (before.isEmpty()) {
            Check.equal("undo of nothing", Check.answerOf(x::undo), refusal(java.util.NoSuchElementException.class));
            return;
        }
        String due = before.removeLast();
        Check.equal("undo", x.undo(), before.size());
        Check.equal("the state after undo", Check.state(x), due);
    }

    /** Runs a script and then undoes it, to run its commands one by one to the same state. */
    private void script() {
        String[] commands = commands();
        String state = Check.state(x);
        Check.type(x, String.join(";", commands));
        String answer = Check.answerOf(x::runScript);
        String after = Check.state(x);
        if (answer.startsWith("throws")) {
            Check.equal("a failing script", answer, refusal(IllegalStateException.class));
            Check.equal("its state", after, state);
        } else {
            remember(state);
            undo();
        }
        int done = 0;
        while (done < commands.length && !run(commands[done]).startsWith("throws")) {
            done++;
        }
        Check.equal("the commands that worked", done, answer.startsWith("throws") ? x.failedCommand() : commands.length);
        Check.equal("the commands' state", answer.startsWith("throws") || Check.state(x).equals(after), true);
    }

    private String[] commands() {
        String[] words = {"lane ", "bumper ", "target ", "nudge ", "drain", "lane ", "quit", "start", "player"};
        String[] commands = new String[1 + next(5)];
        for (int i = 0; i < commands.length; i++) {
            String word = words[next(next(6) == 0 ? words.length : 6)];
            commands[i] = word.endsWith(" ") ? word + (1 + next(next(4) == 0 ? 9 : 2)) : word;
        }
        return commands;
    }

    private String run(String command) {
        String state = Check.state(x);
        int digit = command.charAt(command.length() - 1) - '0';
        String answer = Check.answerOf(() -> {
            switch (command.charAt(0)) {
                case 'l': return x.hitLane(digit);
                case 'b': return x.hitBumper(digit);
                case 't': return x.hitTarget(digit);
                case 'n': return x.nudge(digit);
                case 'd': return x.drain();
                case 'q': return x.quitGame();
                case 's': return x.startGame();
                default: return x.addPlayer();
            }
        });
        if (!answer.startsWith("throws")) {
            remember(state);
        }
        return answer;
    }

    private void other(int choice) {
        switch (choice) {
            case 0: run(x.playerCount() < 2 ? "player" : "start"); break;
            case 1: run("start"); break;
            case 2: run(next(4) == 0 ? "quit" : "drain"); break;
            case 3: case 4:
                saved = Check.state(x);
                Check.equal("save", x.save(), x.playerCount());
                break;
            case 5: restore(); break;
            default: run("player"); break;
        }
    }

    private void restore() {
        if (saved == null) {
            Check.equal("restore of nothing", Check.answerOf(x::restore), refusal(IllegalStateException.class));
            return;
        }
        Check.equal("restore", x.restore(), x.playerCount());
        Check.equal("the state after restore", Check.state(x), saved);
        before.clear();
    }
}
