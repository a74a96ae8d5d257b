import java.util.NoSuchElementException;

/** Promises 35 to 45: records and totals. */
public final class RecordsTest {
    public static void main(String[] args) {
        noRecords();
        sortedRecords();
        equalScores();
        onlyTheBestFive();
        points();
        wrongKinds();
        drainedAndTilted();
        meanScore();
        tiltRate();
        isConsistent();
        Check.finish();
    }

    private static void noRecords() {
        PinballScorer x = Check.started(1);
        Check.equal("recordCount", x.recordCount(), 0);
        recordsRefuse(x, 0);
        recordsRefuse(x, -1);
    }

    private static void recordsRefuse(PinballScorer x, int place) {
        Class<NoSuchElementException> due = NoSuchElementException.class;
        Check.refuses("recordScore " + place, x, due, () -> x.recordScore(place));
        Check.refuses("recordPlayer " + place, x, due, () -> x.recordPlayer(place));
        Check.refuses("recordGame " + place, x, due, () -> x.recordGame(place));
    }

    /** Plays a whole game in which each player hits a bumper a number of times with the first ball. */
    private static void play(PinballScorer x, int... bumperHits) {
        x.startGame();
        for (int hits : bumperHits) {
            Check.times(hits, () -> x.hitBumper(0));
            Check.loseBall(x);
        }
        while (x.isRunning()) {
            Check.loseBall(x);
        }
    }

    private static String table(PinballScorer x) {
        StringBuilder text = new StringBuilder();
        for (int i = 0; i < x.recordCount(); i++) {
            text.append(x.recordScore(i)).append('@').append(x.recordGame(i)).append('p').append(x.recordPlayer(i));
            text.append(' ');
        }
        return text.toString();
    }

    private static void sortedRecords() {
        PinballScorer x = Check.withPlayers(2);
        play(x, 1, 3);
        Check.equal("after a game", table(x), "180@1p1 50@1p0 ");
        Check.equal("recordCount", x.recordCount(), 2);
        recordsRefuse(x, 2);
        recordsRefuse(x, -1);
        play(x, 2, 0);
        Check.equal("after two games", table(x), "180@1p1 110@2p0 50@1p0 0@2p1 ");
        recordsRefuse(x, 4);
        recordsRefuse(x, Integer.MAX_VALUE);
        recordsRefuse(x, Integer.MIN_VALUE);
        x.startGame();
        x.hitTarget(0);
        x.quitGame();
        Check.equal("after a game that was quit", table(x), "180@1p1 110@2p0 50@1p0 0@2p1 ");
        play(x, 4, 0);
        Check.equal("its number is not given again", table(x), "260@4p0 180@1p1 110@2p0 50@1p0 0@2p1 ");
    }

    private static void equalScores() {
        PinballScorer x = Check.withPlayers(3);
        play(x, 1, 1, 2);
        Check.equal("by player", table(x), "110@1p2 50@1p0 50@1p1 ");
        play(x, 1, 2, 0);
        Check.equal("by game", table(x), "110@1p2 110@2p1 50@1p0 50@1p1 50@2p0 ");
    }

    private static void onlyTheBestFive() {
        PinballScorer x = Check.withPlayers(4);
        play(x, 1, 1, 2, 0);
        Check.equal("four", x.recordCount(), 4);
        play(x, 0, 0, 3, 1);
        Check.equal("the best five", table(x), "180@2p2 110@1p2 50@1p0 50@1p1 50@2p3 ");
        Check.equal("five", x.recordCount(), 5);
        recordsRefuse(x, 5);
        play(x, 1, 0, 0, 0);
        Check.equal("an equal score comes too late", table(x), "180@2p2 110@1p2 50@1p0 50@1p1 50@2p3 ");
        play(x, 2, 0, 0, 5);
        Check.equal("better scores push out the last ones", table(x), "350@4p3 180@2p2 110@1p2 110@4p0 50@1p0 ");
    }

    private static void points() {
        PinballScorer x = Check.started(2);
        Check.clearLanes(x);
        x.hitLane(0);
        x.hitBumper(0);
        x.hitTarget(0);
        x.hitTarget(0);
        kinds(x, 600, 100, 440, 0);
        x.drain();
        kinds(x, 600, 100, 440, 200);
        x.hitLane(0);
        kinds(x, 700, 100, 440, 200);
        Check.tilt(x);
        x.hitLane(0);
        x.hitTarget(0);
        x.drain();
        kinds(x, 700, 100, 440, 200);
        x.quitGame();
        kinds(x, 700, 100, 440, 200);
        x.startGame();
        x.hitBumper(2);
        kinds(x, 700, 150, 440, 200);
    }

    private static void kinds(PinballScorer x, int lanes, int bumpers, int targets, int units) {
        Check.equal("pointsOf l", x.pointsOf('l'), lanes);
        Check.equal("pointsOf b", x.pointsOf('b'), bumpers);
        Check.equal("pointsOf t", x.pointsOf('t'), targets);
        Check.equal("pointsOf u", x.pointsOf('u'), units);
        Check.equal("pointsTotal", x.pointsTotal(), lanes + bumpers + targets + units);
    }

    private static void wrongKinds() {
        PinballScorer x = Check.started(1);
        for (char kind : new char[] {'L', 'a', 'v', ' ', '\0', (char) 65535, (char) ('l' + 256)}) {
            Check.refuses("pointsOf " + (int) kind, x, IllegalArgumentException.class, () -> x.pointsOf(kind));
        }
    }

    private static void drainedAndTilted() {
        PinballScorer x = Check.started(2);
        x.drain();
        Check.equal("a saved ball", x.drainedBalls(), 0);
        x.drain();
        Check.equal("a drained ball", x.drainedBalls(), 1);
        Check.times(5, () -> x.nudge(3));
        Check.equal("two warnings", x.tiltedBalls(), 0);
        x.nudge(3);
        Check.equal("a tilted ball counts at once", x.tiltedBalls(), 1);
        Check.equal("and has not drained", x.drainedBalls(), 1);
        x.nudge(3);
        x.nudge(3);
        Check.equal("a ball tilts once", x.tiltedBalls(), 1);
        x.drain();
        Check.equal("a tilted ball drains", x.drainedBalls(), 2);
        Check.tilt(x);
        x.quitGame();
        x.startGame();
        Check.equal("all games count", x.tiltedBalls() + "/" + x.drainedBalls(), "2/2");
    }

    private static void meanScore() {
        PinballScorer x = new PinballScorer();
        Check.refuses("meanScore without players", x, ArithmeticException.class, x::meanScore);
        Check.times(3, x::addPlayer);
        Check.equal("meanScore before a game", x.meanScore(), 0.0);
        x.startGame();
        x.hitLane(0);
        Check.equal("meanScore", x.meanScore(), 100.0 / 3.0);
        Check.lose(x);
        x.hitBumper(0);
        Check.equal("meanScore of two", x.meanScore(), 50.0);
        x.quitGame();
        Check.equal("meanScore after the game", x.meanScore(), 50.0);
        x.addPlayer();
        Check.equal("meanScore with a new player", x.meanScore(), 37.5);
    }

    private static void tiltRate() {
        PinballScorer x = Check.started(1);
        Check.tilt(x);
        Check.refuses("tiltRate before a drain", x, ArithmeticException.class, x::tiltRate);
        x.drain();
        Check.equal("tiltRate 1 of 1", x.tiltRate(), 1.0f);
        Check.lose(x);
        Check.equal("tiltRate 1 of 2", x.tiltRate(), 0.5f);
        Check.lose(x);
        Check.equal("tiltRate 1 of 3", x.tiltRate(), 1.0f / 3.0f);
        x.startGame();
        Check.tilt(x);
        Check.equal("tiltRate 2 of 3", x.tiltRate(), 2.0f / 3.0f);
        PinballScorer y = Check.started(1);
        Check.lose(y);
        Check.equal("tiltRate 0 of 1", y.tiltRate(), 0.0f);
    }

    private static void isConsistent() {
        PinballScorer x = Check.withPlayers(2);
        Check.equal("isConsistent before a game", x.isConsistent(), true);
        play(x, 1, 1);
        play(x, 1, 3);
        play(x, 1, 3);
        Check.equal("isConsistent after games", x.isConsistent(), true);
        x.startGame();
        Check.clearLanes(x);
        Check.times(7, () -> x.hitBumper(1));
        Check.times(17, () -> x.hitBumper(2));
        Check.clearBank(x);
        Check.equal("isConsistent in a game", x.isConsistent(), true);
        Check.tilt(x);
        Check.equal("isConsistent when tilted", x.isConsistent(), true);
        x.drain();
        x.undo();
        Check.equal("isConsistent after undo", x.isConsistent(), true);
    }
}
