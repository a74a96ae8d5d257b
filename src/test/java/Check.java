import java.util.function.Supplier;

/** What the tests share: comparing answers, typing scripts, and telling an object's whole visible state. */
final class Check {
    interface Call {
        Object run();
    }

    private static int made;
    private static int wrong;
    private static String context = "";

    private Check() {
    }

    static void equal(String what, Object got, Object want) {
        made++;
        if (!want.equals(got)) {
            wrong(what + " answered " + got + ", due is " + want);
        }
    }

    static void wrong(String what) {
        wrong++;
        System.out.println(context + what);
    }

    /** What is printed before each wrong answer from here on. */
    static void within(String newContext) {
        context = newContext;
    }

    static int made() {
        return made;
    }

    /** The exception must be of this very class: one that the machine throws is often of a class below it. */
    static void fails(String what, Class<? extends RuntimeException> want, Call call) {
        equal(what, answerOf(call), "throws " + want.getName());
    }

    /** As fails, and the call must leave the visible state as it was. */
    static void refuses(String what, PinballScorer x, Class<? extends RuntimeException> want, Call call) {
        String before = state(x);
        fails(what, want, call);
        equal(what + ": the state after it", state(x), before);
    }

    static String answerOf(Call call) {
        try {
            return String.valueOf(call.run());
        } catch (RuntimeException e) {
            return "throws " + e.getClass().getName();
        }
    }

    static void finish() {
        System.exit(wrong == 0 ? 0 : 1);
    }

    static PinballScorer withPlayers(int count) {
        PinballScorer x = new PinballScorer();
        for (int i = 0; i < count; i++) {
            x.addPlayer();
        }
        return x;
    }

    static PinballScorer started(int players) {
        PinballScorer x = withPlayers(players);
        x.startGame();
        return x;
    }

    static void times(int count, Call call) {
        for (int i = 0; i < count; i++) {
            call.run();
        }
    }

    static void type(PinballScorer x, String script) {
        for (int i = 0; i < script.length(); i++) {
            x.type(script.charAt(i));
        }
    }

    static Object runScript(PinballScorer x, String script) {
        type(x, script);
        return x.runScript();
    }

    static String output(PinballScorer x, Supplier<Integer> render) {
        return output(x, render.get());
    }

    static String output(PinballScorer x, int length) {
        StringBuilder text = new StringBuilder();
        for (int i = 0; i < length; i++) {
            text.append(x.outputAt(i));
        }
        return text.toString();
    }

    static String currentOutput(PinballScorer x) {
        StringBuilder text = new StringBuilder();
        try {
            for (int i = 0; i < 1000; i++) {
                text.append(x.outputAt(i));
            }
        } catch (IndexOutOfBoundsException e) {
            return text.toString();
        }
        return text.toString();
    }

    /** Lights all lanes once. */
    static void clearLanes(PinballScorer x) {
        for (int lane = 0; lane < 4; lane++) {
            x.hitLane(lane);
        }
    }

    /** Drops all targets once. */
    static void clearBank(PinballScorer x) {
        for (int target = 0; target < 5; target++) {
            x.hitTarget(target);
        }
    }

    static void tilt(PinballScorer x) {
        times(6, () -> x.nudge(3));
    }

    /** Loses a ball that has had no hit: the first drain only saves it. */
    static void lose(PinballScorer x) {
        x.drain();
        x.drain();
    }

    /** Loses the ball in play, whatever has happened to it. */
    static void loseBall(PinballScorer x) {
        if (x.wouldBeSaved()) {
            x.drain();
        }
        x.drain();
    }

    static void loseBalls(PinballScorer x, int count) {
        for (int i = 0; i < count; i++) {
            loseBall(x);
        }
    }

    /** All of the ball in play, so that two balls can be compared. */
    static String ball(PinballScorer x) {
        StringBuilder text = new StringBuilder();
        putBall(text, x);
        return text.toString();
    }

    /** Everything that undo and the snapshot cover, as the face tells it without changing anything. */
    static String state(PinballScorer x) {
        StringBuilder text = new StringBuilder();
        put(text, "running", x::isRunning);
        put(text, "games", x::gameCount);
        put(text, "players", x::playerCount);
        put(text, "current", x::currentPlayer);
        put(text, "ball", x::ballNumber);
        for (int i = 0; i < 4; i++) {
            int index = i;
            put(text, "score", () -> x.score(index));
            put(text, "extra", () -> x.extraBalls(index));
            put(text, "rank", () -> x.playerAtRank(index));
        }
        putBall(text, x);
        putRecords(text, x);
        return text.toString();
    }

    private static void putBall(StringBuilder text, PinballScorer x) {
        put(text, "multiplier", x::multiplier);
        for (int i = 0; i < 5; i++) {
            int index = i;
            put(text, "lit", () -> x.isLit(index));
            put(text, "value", () -> x.bumperValue(index));
            put(text, "down", () -> x.isDown(index));
        }
        put(text, "banks", x::completedBanks);
        put(text, "units", x::bonusUnits);
        put(text, "meter", x::tiltMeter);
        put(text, "warnings", x::warnings);
        put(text, "tilted", x::isTilted);
        put(text, "hits", x::hits);
        put(text, "saved", x::wouldBeSaved);
    }

    private static void putRecords(StringBuilder text, PinballScorer x) {
        put(text, "records", x::recordCount);
        for (int i = 0; i < 5; i++) {
            int place = i;
            put(text, "record", () -> x.recordScore(place));
            put(text, "by", () -> x.recordPlayer(place));
            put(text, "in", () -> x.recordGame(place));
        }
        put(text, "total", x::pointsTotal);
        for (char kind : "lbtu".toCharArray()) {
            put(text, "of " + kind, () -> x.pointsOf(kind));
        }
        put(text, "drained", x::drainedBalls);
        put(text, "tilted balls", x::tiltedBalls);
        put(text, "mean", x::meanScore);
        put(text, "rate", x::tiltRate);
    }

    private static void put(StringBuilder text, String name, Call call) {
        text.append(name).append('=').append(answerOf(call)).append(' ');
    }
}
