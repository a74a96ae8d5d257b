import java.util.NoSuchElementException;
import java.util.function.BiFunction;

/** Edges of records and totals: promises 35 to 45, and the terms about records. */
final class RecordEdges {
    private RecordEdges() {
    }

    static void run() {
        fiveRecords();
        equalScores();
        notKept();
        recordCount();
        places();
        pointsTotal();
        pointsOf();
        drainedBalls();
        tiltedBalls();
        meanScore();
        tiltRate();
        isConsistent();
    }

    /** Plays a whole game in which each player hits a bumper a number of times with the first ball. */
    private static void play(PinballScorer x, int... bumperHits) {
        x.startGame();
        for (int hits : bumperHits) {
            Check.times(hits, () -> x.hitBumper(0));
            Check.loseBall(x);
        }
        Check.loseBalls(x, 2 * bumperHits.length);
        Check.equal("the game is over", x.isRunning(), false);
    }

    private static String records(PinballScorer x) {
        StringBuilder text = new StringBuilder();
        for (int i = 0; i < x.recordCount(); i++) {
            text.append(i == 0 ? "" : " ");
            text.append(x.recordScore(i)).append('@').append(x.recordGame(i)).append('p').append(x.recordPlayer(i));
        }
        return text.toString();
    }

    /** Five records of one player: 350@5p0 260@4p0 180@3p0 110@2p0 50@1p0. */
    private static PinballScorer fullTable() {
        PinballScorer x = Check.withPlayers(1);
        for (int hits = 1; hits <= 5; hits++) {
            play(x, hits);
        }
        return x;
    }

    private static void fiveRecords() {
        Edges.terms("The table has at most 5 records, sorted by score in descending order;");
        Edges.edge("the fifth record", () -> {
            PinballScorer x = fullTable();
            Check.equal("recordCount", x.recordCount(), 5);
            Check.equal("the records", records(x), "350@5p0 260@4p0 180@3p0 110@2p0 50@1p0");
        });
        Edges.edge("a sixth record, the best", () -> {
            PinballScorer x = fullTable();
            play(x, 6);
            Check.equal("the records", records(x), "450@6p0 350@5p0 260@4p0 180@3p0 110@2p0");
        });
        Edges.edge("a sixth record in the last place", () -> {
            PinballScorer x = fullTable();
            x.startGame();
            x.hitLane(0);
            Check.loseBalls(x, 3);
            Check.equal("the records", records(x), "350@5p0 260@4p0 180@3p0 110@2p0 100@6p0");
        });
        Edges.edge("falling scores fill the table from the top", () -> {
            PinballScorer x = Check.withPlayers(1);
            for (int hits = 5; hits >= 0; hits--) {
                play(x, hits);
            }
            Check.equal("the records", records(x), "350@1p0 260@2p0 180@3p0 110@4p0 50@5p0");
        });
        Edges.edge("four players in two games, the sixth to the eighth too much", () -> {
            PinballScorer x = Check.withPlayers(4);
            play(x, 1, 3, 2, 4);
            Check.equal("after one game", records(x), "260@1p3 180@1p1 110@1p2 50@1p0");
            play(x, 5, 6, 7, 0);
            Check.equal("after two games", records(x), "560@2p2 450@2p1 350@2p0 260@1p3 180@1p1");
        });
    }

    private static void equalScores() {
        Edges.terms("of equal scores, the one that was entered earlier comes first.");
        Edges.edge("of one game", () -> {
            PinballScorer x = Check.withPlayers(4);
            play(x, 2, 2, 2, 2);
            Check.equal("the records", records(x), "110@1p0 110@1p1 110@1p2 110@1p3");
        });
        Edges.edge("of two games", () -> {
            PinballScorer x = Check.withPlayers(2);
            play(x, 1, 2);
            play(x, 2, 1);
            Check.equal("the records", records(x), "110@1p1 110@2p0 50@1p0 50@2p1");
        });
        Edges.edge("of one player, in five games", () -> {
            PinballScorer x = Check.withPlayers(1);
            for (int i = 0; i < 6; i++) {
                play(x, 1);
            }
            Check.equal("the records", records(x), "50@1p0 50@2p0 50@3p0 50@4p0 50@5p0");
        });
        Edges.edge("the later of two equal ones is pushed out first", () -> {
            PinballScorer x = Check.withPlayers(4);
            play(x, 1, 1, 1, 1);
            play(x, 2, 2, 0, 0);
            Check.equal("the records", records(x), "110@2p0 110@2p1 50@1p0 50@1p1 50@1p2");
        });
    }

    private static void notKept() {
        Edges.terms("A score that does not belong to the best 5 is not kept.");
        Edges.edge("below the fifth", () -> {
            PinballScorer x = fullTable();
            play(x, 0);
            Check.equal("the records", records(x), "350@5p0 260@4p0 180@3p0 110@2p0 50@1p0");
        });
        Edges.edge("equal to the fifth", () -> {
            PinballScorer x = fullTable();
            play(x, 1);
            Check.equal("the records", records(x), "350@5p0 260@4p0 180@3p0 110@2p0 50@1p0");
        });
        Edges.edge("equal to the first", () -> {
            PinballScorer x = fullTable();
            play(x, 5);
            Check.equal("the records", records(x), "350@5p0 350@6p0 260@4p0 180@3p0 110@2p0");
        });
        Edges.edge("0 points belong to the best 5 while there is room", () -> {
            PinballScorer x = Check.withPlayers(1);
            play(x, 0);
            Check.equal("the records", records(x), "0@1p0");
        });
        Edges.edge("a record that was pushed out does not come back", () -> {
            PinballScorer x = fullTable();
            play(x, 6);
            Check.equal("recordCount", x.recordCount(), 5);
            Check.refuses("recordScore", x, NoSuchElementException.class, () -> x.recordScore(5));
        });
    }

    private static void recordCount() {
        Edges.promise(35, "Returns the number of records.");
        Edges.edge("none before the first game's end", () -> {
            PinballScorer x = Check.started(4);
            Check.loseBalls(x, 11);
            x.drain();
            Check.equal("before", x.recordCount(), 0);
            x.drain();
            Check.equal("after", x.recordCount(), 4);
        });
        Edges.edge("five, and not six", () -> {
            PinballScorer x = fullTable();
            play(x, 6);
            Check.equal("recordCount", x.recordCount(), 5);
        });
        Edges.edge("none of a game that was quit", () -> Check.equal("recordCount", Edges.quitTable().recordCount(), 0));
    }

    private static void places() {
        Edges.promise(36, "Returns the score of a record.");
        Edges.edge("the first and the last", () -> {
            PinballScorer x = fullTable();
            Check.equal("recordScore", x.recordScore(0) + "/" + x.recordScore(4), "350/50");
        });
        Edges.promise(36, "Throws `NoSuchElementException` if there is no such place");
        wrongPlaces(PinballScorer::recordScore);
        Edges.promise(37, "Returns the player of a record.");
        Edges.edge("the first and the last player", () -> {
            PinballScorer x = Check.withPlayers(4);
            play(x, 1, 2, 3, 4);
            Check.equal("recordPlayer", x.recordPlayer(0) + "/" + x.recordPlayer(3), "3/0");
        });
        Edges.promise(37, "Throws `NoSuchElementException` if there is no such place");
        wrongPlaces(PinballScorer::recordPlayer);
        Edges.promise(38, "Returns the game of a record.");
        Edges.edge("the first game, and one after a game that was quit", () -> {
            PinballScorer x = Check.withPlayers(1);
            play(x, 1);
            x.startGame();
            x.quitGame();
            play(x, 2);
            Check.equal("recordGame", x.recordGame(0) + "/" + x.recordGame(1), "3/1");
        });
        Edges.promise(38, "Throws `NoSuchElementException` if there is no such place");
        wrongPlaces(PinballScorer::recordGame);
    }

    private static void wrongPlaces(BiFunction<PinballScorer, Integer, Object> call) {
        for (int place : new int[] {-1, 5, 6, Integer.MAX_VALUE, Integer.MIN_VALUE}) {
            Edges.edge("place " + place + " of 5", () -> refusesPlace(fullTable(), place, call));
        }
        Edges.edge("place 4 of 5", () -> Edges.answers(fullTable(), 4, call));
        for (int count = 0; count < 5; count++) {
            int place = count;
            Edges.edge("place " + place + " of " + place, () -> {
                PinballScorer x = Check.withPlayers(1);
                for (int i = 0; i < place; i++) {
                    play(x, i);
                }
                refusesPlace(x, place, call);
            });
        }
        Edges.edge("a place that was undone", () -> {
            PinballScorer x = Check.withPlayers(1);
            play(x, 1);
            x.undo();
            refusesPlace(x, 0, call);
        });
    }

    private static void refusesPlace(PinballScorer x, int place, BiFunction<PinballScorer, Integer, Object> call) {
        Check.refuses("the call", x, NoSuchElementException.class, () -> call.apply(x, place));
    }

    private static void pointsTotal() {
        Edges.promise(39, "Returns the sum of all points that have been scored so far, in all games, added up as they "
                + "were scored.");
        Edges.edge("none", () -> Check.equal("pointsTotal", Check.started(1).pointsTotal(), 0));
        Edges.edge("a game that was quit and the next one", () -> {
            PinballScorer x = Check.started(2);
            x.hitLane(0);
            Check.loseBall(x);
            x.hitBumper(0);
            x.quitGame();
            Check.equal("after quitGame", x.pointsTotal(), 150);
            x.startGame();
            Check.equal("after startGame", x.pointsTotal(), 150);
            x.hitLane(0);
            Check.equal("after a hit", x.pointsTotal(), 250);
        });
        Edges.edge("bonus units count when they are awarded", () -> {
            PinballScorer x = Check.started(1);
            x.hitTarget(0);
            x.drain();
            Check.equal("saved", x.pointsTotal(), 200);
            x.drain();
            Check.equal("drained", x.pointsTotal(), 300);
        });
        Edges.edge("undone points do not count", () -> {
            PinballScorer x = Check.started(1);
            x.hitLane(0);
            x.undo();
            Check.equal("pointsTotal", x.pointsTotal(), 0);
        });
        Edges.edge("hits on a tilted ball", () -> {
            PinballScorer x = Check.started(1);
            Check.tilt(x);
            Check.clearLanes(x);
            Check.equal("pointsTotal", x.pointsTotal(), 0);
        });
    }

    private static void pointsOf() {
        Edges.promise(40, "Returns the points that have been scored so far in one way.");
        Edges.edge("none of any kind", () -> kinds(new PinballScorer(), 0, 0, 0, 0));
        Edges.edge("lanes alone", () -> {
            PinballScorer x = Check.started(1);
            x.hitLane(0);
            x.hitLane(0);
            kinds(x, 110, 0, 0, 0);
        });
        Edges.edge("bumpers alone", () -> {
            PinballScorer x = Check.started(1);
            x.hitBumper(0);
            x.hitBumper(0);
            kinds(x, 0, 110, 0, 0);
        });
        Edges.edge("targets alone", () -> {
            PinballScorer x = Check.started(1);
            x.hitTarget(0);
            x.hitTarget(0);
            kinds(x, 0, 0, 220, 0);
        });
        Edges.edge("bonus units, in all games", () -> {
            PinballScorer x = Check.started(1);
            Check.clearBank(x);
            x.drain();
            kinds(x, 0, 0, 1000, 800);
            x.quitGame();
            x.startGame();
            kinds(x, 0, 0, 1000, 800);
        });
        Edges.promise(40, "Throws `IllegalArgumentException` if there is no such kind");
        char[] wrong = {'L', 'B', 'T', 'U', 'k', 'm', 'a', 'c', 's', 'v', ' ', 0, 'l' + 256, 'u' + 256, 65535};
        for (char kind : wrong) {
            Edges.edge("kind " + (int) kind, () -> {
                PinballScorer x = Check.started(1);
                Check.refuses("pointsOf", x, IllegalArgumentException.class, () -> x.pointsOf(kind));
                PinballScorer y = new PinballScorer();
                Check.refuses("pointsOf", y, IllegalArgumentException.class, () -> y.pointsOf(kind));
            });
        }
    }

    private static void kinds(PinballScorer x, int lanes, int bumpers, int targets, int units) {
        Check.equal("pointsOf l", x.pointsOf('l'), lanes);
        Check.equal("pointsOf b", x.pointsOf('b'), bumpers);
        Check.equal("pointsOf t", x.pointsOf('t'), targets);
        Check.equal("pointsOf u", x.pointsOf('u'), units);
        Check.equal("pointsTotal", x.pointsTotal(), lanes + bumpers + targets + units);
    }

    private static void drainedBalls() {
        Edges.promise(41, "Returns the number of balls that have drained without being saved so far.");
        Edges.edge("a drain that saves, and the next one", () -> {
            PinballScorer x = Check.started(1);
            x.drain();
            Check.equal("saved", x.drainedBalls(), 0);
            x.drain();
            Check.equal("not saved", x.drainedBalls(), 1);
        });
        Edges.edge("a tilted ball", () -> {
            PinballScorer x = Check.started(1);
            Check.tilt(x);
            x.drain();
            Check.equal("drainedBalls", x.drainedBalls(), 1);
        });
        Edges.edge("a ball that leads to an extra ball", () -> {
            PinballScorer x = Check.started(1);
            Check.clearBank(x);
            Check.clearBank(x);
            x.drain();
            Check.equal("drainedBalls", x.drainedBalls(), 1);
        });
        Edges.edge("the last ball of a game, and the next game's", () -> {
            PinballScorer x = Edges.overTable();
            Check.equal("one game", x.drainedBalls(), 6);
            x.startGame();
            Check.equal("a new game", x.drainedBalls(), 6);
            Check.loseBall(x);
            Check.equal("its first ball", x.drainedBalls(), 7);
        });
        Edges.edge("a ball whose game was quit", () -> {
            PinballScorer x = Edges.quitTable();
            Check.equal("drainedBalls", x.drainedBalls(), 0);
        });
    }

    private static void tiltedBalls() {
        Edges.promise(42, "Returns the number of balls that have been tilted so far. A ball counts as soon as it is "
                + "tilted.");
        Edges.edge("the third warning, before the ball drains", () -> {
            PinballScorer x = Check.started(1);
            Check.times(5, () -> x.nudge(3));
            Check.equal("two warnings", x.tiltedBalls(), 0);
            x.nudge(2);
            Check.equal("three warnings", x.tiltedBalls(), 1);
            Check.equal("drainedBalls", x.drainedBalls(), 0);
        });
        Edges.edge("a tilted ball that is nudged, hit and drained", () -> {
            PinballScorer x = Check.started(1);
            Check.tilt(x);
            Check.tilt(x);
            x.hitLane(0);
            x.drain();
            Check.equal("tiltedBalls", x.tiltedBalls(), 1);
        });
        Edges.edge("two balls", () -> {
            PinballScorer x = Check.started(1);
            Check.tilt(x);
            x.drain();
            Check.tilt(x);
            Check.equal("tiltedBalls", x.tiltedBalls(), 2);
        });
        Edges.edge("a tilt that was undone", () -> {
            PinballScorer x = Check.started(1);
            Check.tilt(x);
            x.undo();
            Check.equal("tiltedBalls", x.tiltedBalls(), 0);
        });
        Edges.edge("a ball whose game was quit", () -> {
            PinballScorer x = Check.started(1);
            Check.tilt(x);
            x.quitGame();
            x.startGame();
            Check.equal("tiltedBalls", x.tiltedBalls(), 1);
        });
    }

    private static void meanScore() {
        Edges.promise(43, "Returns the mean score of the players: the sum divided by their number, both converted to "
                + "double.");
        Edges.edge("no points", () -> Check.equal("meanScore", Check.withPlayers(4).meanScore(), 0.0));
        Edges.edge("one player", () -> {
            PinballScorer x = Check.started(1);
            x.hitLane(0);
            Check.equal("meanScore", x.meanScore(), 100.0);
        });
        Edges.edge("a mean that is not whole", () -> {
            PinballScorer x = Check.started(3);
            x.hitLane(0);
            Check.equal("meanScore", x.meanScore(), 100.0 / 3.0);
            x.hitLane(0);
            x.hitLane(0);
            Check.loseBall(x);
            x.hitBumper(0);
            Check.equal("meanScore of 170", x.meanScore(), 170.0 / 3.0);
        });
        Edges.edge("four players' points", () -> {
            PinballScorer x = Check.started(4);
            for (int i = 0; i < 4; i++) {
                x.hitBumper(i % 3);
                Check.loseBall(x);
            }
            x.hitLane(0);
            Check.equal("meanScore", x.meanScore(), 75.0);
        });
        Edges.edge("a player without points counts", () -> {
            PinballScorer x = Check.started(1);
            x.hitLane(0);
            x.quitGame();
            x.addPlayer();
            Check.equal("meanScore", x.meanScore(), 50.0);
        });
        Edges.promise(43, "Throws `ArithmeticException` if there are no players");
        Edges.edge("a new table", () -> refusesMean(new PinballScorer()));
        Edges.edge("the only player undone", () -> {
            PinballScorer x = Check.withPlayers(1);
            x.undo();
            refusesMean(x);
        });
        Edges.edge("a table without players restored", () -> {
            PinballScorer x = new PinballScorer();
            x.save();
            x.addPlayer();
            x.restore();
            refusesMean(x);
        });
    }

    private static void refusesMean(PinballScorer x) {
        Check.refuses("meanScore", x, ArithmeticException.class, x::meanScore);
    }

    private static void tiltRate() {
        Edges.promise(44, "Returns the number of tilted balls divided by the number of drained balls, both converted to "
                + "float.");
        Edges.edge("0 of 1", () -> {
            PinballScorer x = Check.started(1);
            Check.loseBall(x);
            Check.equal("tiltRate", x.tiltRate(), 0.0f);
        });
        Edges.edge("1 of 3", () -> {
            PinballScorer x = Check.started(1);
            Check.tilt(x);
            Check.loseBalls(x, 3);
            Check.equal("tiltRate", x.tiltRate(), 1.0f / 3.0f);
        });
        Edges.edge("2 of 1, as a ball counts as soon as it is tilted", () -> {
            PinballScorer x = Check.started(1);
            Check.tilt(x);
            x.drain();
            Check.tilt(x);
            Check.equal("tiltRate", x.tiltRate(), 2.0f);
        });
        Edges.promise(44, "Throws `ArithmeticException` if no ball has drained");
        Edges.edge("a new table", () -> refusesRate(new PinballScorer()));
        Edges.edge("a new game", () -> refusesRate(Check.started(1)));
        Edges.edge("a tilted ball that has not drained", () -> {
            PinballScorer x = Check.started(1);
            Check.tilt(x);
            refusesRate(x);
        });
        Edges.edge("a ball that was saved", () -> {
            PinballScorer x = Check.started(1);
            x.drain();
            refusesRate(x);
        });
        Edges.edge("a drain that was undone", () -> {
            PinballScorer x = Check.started(1);
            Check.loseBall(x);
            x.undo();
            refusesRate(x);
        });
        Edges.edge("a game that was quit", () -> refusesRate(Edges.quitTable()));
    }

    private static void refusesRate(PinballScorer x) {
        Check.refuses("tiltRate", x, ArithmeticException.class, x::tiltRate);
    }

    private static void isConsistent() {
        Edges.promise(45, "Checks the state: both ways of laneRun agree, and both ways of bumperRun for all bumpers and 0 "
                + "to 20 hits, if a game is running; pointsTotal is the sum of pointsOf over all kinds; and the records "
                + "are sorted.");
        Edges.edge("without a game", () -> consistent(new PinballScorer()));
        Edges.edge("a new game", () -> consistent(Check.started(4)));
        Edges.edge("three lanes lit, all bumpers at their greatest value, six times", () -> {
            PinballScorer x = Check.started(1);
            for (int i = 0; i < 5; i++) {
                Check.clearLanes(x);
            }
            for (int i = 0; i < 3; i++) {
                int index = i;
                x.hitLane(index);
                Check.times(16, () -> x.hitBumper(index));
            }
            consistent(x);
        });
        Edges.edge("a tilted ball", () -> {
            PinballScorer x = Check.started(1);
            Check.clearLanes(x);
            x.hitBumper(0);
            Check.tilt(x);
            consistent(x);
        });
        Edges.edge("a full table of records", () -> consistent(fullTable()));
        Edges.edge("a full table of equal records", () -> {
            PinballScorer x = Check.withPlayers(4);
            play(x, 1, 1, 1, 1);
            play(x, 1, 1, 1, 1);
            consistent(x);
        });
        Edges.edge("after a bonus, undo and restore", () -> {
            PinballScorer x = Check.started(1);
            Check.clearBank(x);
            x.save();
            x.drain();
            consistent(x);
            x.undo();
            consistent(x);
            x.restore();
            consistent(x);
        });
    }

    private static void consistent(PinballScorer x) {
        String before = Check.state(x);
        Check.equal("isConsistent", x.isConsistent(), true);
        Check.equal("the state", Check.state(x), before);
    }
}
