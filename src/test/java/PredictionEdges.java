import java.util.NoSuchElementException;

/** Edges of predictions: promises 29 to 34. */
final class PredictionEdges {
    private static final String WITHOUT_GAME = "Throws `IllegalStateException` if no game is running";

    private PredictionEdges() {
    }

    static void run() {
        laneRun();
        bumperRun();
        bumperRunBySeries();
        roundedDown();
        bonusIfDrained();
        nextPlayer();
        gameWouldBeOver();
    }

    private static void laneRun() {
        Edges.promise(29, "Returns the points that hits on all lanes that are not lit, in ascending order, would score "
                + "now, found by simulating them on a copy. For a tilted ball, it is 0.");
        Edges.edge("the lit lanes of every kind, once to six times", () -> {
            for (int multiplier = 1; multiplier <= 6; multiplier++) {
                for (int lit = 0; lit < 15; lit++) {
                    PinballScorer x = withLanes(multiplier, lit);
                    Check.equal("laneRun", x.laneRun(), 100 * multiplier * (4 - Integer.bitCount(lit)));
                }
            }
        });
        Edges.edge("the copy alone is hit", () -> {
            PinballScorer x = withLanes(1, 7);
            x.nudge(3);
            String before = Check.state(x);
            Check.equal("laneRun", x.laneRun(), 100);
            Check.equal("the state", Check.state(x), before);
            Check.equal("laneRun again", x.laneRun(), 100);
        });
        Edges.edge("it is what the hits then score", () -> {
            PinballScorer x = withLanes(6, 5);
            int due = x.laneRun();
            Check.equal("the hits", x.hitLane(1) + x.hitLane(3), due);
        });
        Edges.edge("a tilted ball", () -> {
            PinballScorer x = withLanes(6, 0);
            Check.tilt(x);
            Check.equal("laneRun", x.laneRun(), 0);
        });
        Edges.promise(29, WITHOUT_GAME);
        Edges.needsGame(PinballScorer::laneRun);
        Edges.promise(30, "Returns the same number as laneRun, found by counting the lanes that are not lit.");
        Edges.edge("the lit lanes of every kind, once to six times", () -> {
            for (int multiplier = 1; multiplier <= 6; multiplier++) {
                for (int lit = 0; lit < 15; lit++) {
                    PinballScorer x = withLanes(multiplier, lit);
                    Check.equal("laneRunByCounting", x.laneRunByCounting(),
                            100 * multiplier * (4 - Integer.bitCount(lit)));
                }
            }
        });
        Edges.edge("a tilted ball", () -> {
            PinballScorer x = withLanes(1, 8);
            Check.tilt(x);
            Check.equal("laneRunByCounting", x.laneRunByCounting(), 0);
        });
        Edges.promise(30, WITHOUT_GAME);
        Edges.needsGame(PinballScorer::laneRunByCounting);
    }

    /** Bit i of lit tells whether lane i is lit. */
    private static PinballScorer withLanes(int multiplier, int lit) {
        PinballScorer x = Check.started(1);
        for (int i = 1; i < multiplier; i++) {
            Check.clearLanes(x);
        }
        for (int lane = 0; lane < 4; lane++) {
            if ((lit >> lane & 1) == 1) {
                x.hitLane(lane);
            }
        }
        return x;
    }

    private interface Run {
        int of(PinballScorer x, int bumper, int hits);
    }

    private static void bumperRun() {
        Edges.promise(31, "Returns the points that a number of hits on one bumper would score now, found hit by hit.");
        runs(PinballScorer::bumperRun);
        Edges.edge("the copy alone is hit", () -> {
            PinballScorer x = Check.started(1);
            x.nudge(3);
            String before = Check.state(x);
            Check.equal("bumperRun", x.bumperRun(0, 50), 8800);
            Check.equal("the state", Check.state(x), before);
            Check.equal("bumperRun again", x.bumperRun(0, 50), 8800);
        });
        Edges.promise(31, "For a tilted ball, it is 0.");
        Edges.edge("one hit, and fifty hits", () -> tiltedRun(PinballScorer::bumperRun));
        Edges.promise(31, "Throws `IndexOutOfBoundsException` if there is no such bumper");
        wrongBumpers(PinballScorer::bumperRun);
        Edges.promise(31, "Throws `IllegalArgumentException` if hits is not between 0 and 50");
        wrongHits(PinballScorer::bumperRun);
        Edges.promise(31, WITHOUT_GAME);
        Edges.needsGame(x -> x.bumperRun(0, 0));
        Edges.needsGame(x -> x.bumperRun(2, 50));
    }

    private static void bumperRunBySeries() {
        Edges.promise(32, "Returns the same number as bumperRun, found by summing an arithmetic series and the hits at "
                + "the greatest value.");
        runs(PinballScorer::bumperRunBySeries);
        Edges.edge("a tilted ball", () -> tiltedRun(PinballScorer::bumperRunBySeries));
        Edges.promise(32, "Throws `IndexOutOfBoundsException` if there is no such bumper");
        wrongBumpers(PinballScorer::bumperRunBySeries);
        Edges.promise(32, "Throws `IllegalArgumentException` if hits is not between 0 and 50");
        wrongHits(PinballScorer::bumperRunBySeries);
        Edges.promise(32, WITHOUT_GAME);
        Edges.needsGame(x -> x.bumperRunBySeries(0, 0));
        Edges.needsGame(x -> x.bumperRunBySeries(2, 50));
    }

    private static void runs(Run run) {
        Edges.edge("no hit", () -> Check.equal("run", run.of(Check.started(1), 0, 0), 0));
        Edges.edge("one hit", () -> Check.equal("run", run.of(Check.started(1), 2, 1), 50));
        Edges.edge("15 hits, the last one below 200", () -> Check.equal("run", run.of(Check.started(1), 0, 15), 1800));
        Edges.edge("16 hits, the first one at 200", () -> Check.equal("run", run.of(Check.started(1), 0, 16), 2000));
        Edges.edge("17 hits, the second one at 200", () -> Check.equal("run", run.of(Check.started(1), 0, 17), 2200));
        Edges.edge("50 hits, the most", () -> Check.equal("run", run.of(Check.started(1), 0, 50), 8800));
        Edges.edge("a bumper at 190", () -> {
            PinballScorer x = Check.started(1);
            Check.times(14, () -> x.hitBumper(1));
            Check.equal("one hit", run.of(x, 1, 1), 190);
            Check.equal("two hits", run.of(x, 1, 2), 390);
            Check.equal("another bumper", run.of(x, 0, 2), 110);
        });
        Edges.edge("a bumper at 200", () -> {
            PinballScorer x = Check.started(1);
            Check.times(15, () -> x.hitBumper(1));
            Check.equal("no hit", run.of(x, 1, 0), 0);
            Check.equal("one hit", run.of(x, 1, 1), 200);
            Check.equal("fifty hits", run.of(x, 1, 50), 10000);
        });
        Edges.edge("six times, the greatest number", () -> {
            PinballScorer x = withLanes(6, 0);
            Check.times(15, () -> x.hitBumper(2));
            Check.equal("a new bumper", run.of(x, 0, 50), 52800);
            Check.equal("a bumper at 200", run.of(x, 2, 50), 60000);
        });
        Edges.edge("it is what the hits then score", () -> {
            for (int hits = 0; hits <= 50; hits++) {
                PinballScorer x = withLanes(2, 0);
                int due = run.of(x, 1, hits);
                int before = x.score(0);
                Check.times(hits, () -> x.hitBumper(1));
                Check.equal("the score of " + hits + " hits", x.score(0) - before, due);
            }
        });
    }

    private static void tiltedRun(Run run) {
        PinballScorer x = withLanes(2, 0);
        x.hitBumper(0);
        Check.tilt(x);
        Check.equal("no hit", run.of(x, 0, 0), 0);
        Check.equal("one hit", run.of(x, 0, 1), 0);
        Check.equal("fifty hits", run.of(x, 0, 50), 0);
    }

    /** The wrong bumper is listed before wrong hits and before the missing game. */
    private static void wrongBumpers(Run run) {
        Edges.hasIndices(3, (x, bumper) -> run.of(x, bumper, 0));
        Edges.hasIndices(3, (x, bumper) -> run.of(x, bumper, 50));
        for (int hits : new int[] {-1, 51}) {
            Edges.edge("bumper 3 and " + hits + " hits", () -> {
                PinballScorer x = Check.started(1);
                Check.refuses("the call", x, IndexOutOfBoundsException.class, () -> run.of(x, 3, hits));
            });
            Edges.edge("bumper -1 and " + hits + " hits without a game", () -> {
                PinballScorer x = Check.withPlayers(1);
                Check.refuses("the call", x, IndexOutOfBoundsException.class, () -> run.of(x, -1, hits));
            });
        }
    }

    private static void wrongHits(Run run) {
        for (int hits : new int[] {-1, 51, Integer.MAX_VALUE, Integer.MIN_VALUE}) {
            Edges.edge(hits + " hits in a game", () -> refusesHits(Check.started(1), run, hits));
            Edges.edge(hits + " hits without a game", () -> refusesHits(Check.withPlayers(1), run, hits));
            Edges.edge(hits + " hits with a tilted ball", () -> {
                PinballScorer x = Check.started(1);
                Check.tilt(x);
                refusesHits(x, run, hits);
            });
        }
    }

    private static void refusesHits(PinballScorer x, Run run, int hits) {
        Check.refuses("the call", x, IllegalArgumentException.class, () -> run.of(x, 2, hits));
    }

    private static void roundedDown() {
        Edges.terms("All integer divisions round down.");
        Edges.edge("the series of odd and even lengths from each value", () -> {
            PinballScorer x = Check.started(1);
            for (int value = 50; value <= 200; value += 10) {
                Check.equal("bumperValue", x.bumperValue(0), value);
                int sum = 0;
                for (int hits = 0; hits <= 50; hits++) {
                    Check.equal("bumperRunBySeries of " + hits, x.bumperRunBySeries(0, hits), sum);
                    sum += Math.min(value + 10 * hits, 200);
                }
                x.hitBumper(0);
            }
        });
    }

    private static void bonusIfDrained() {
        Edges.promise(33, "Returns the points that would be awarded for bonus units if the ball drained now.");
        Edges.edge("no bonus unit, six times", () -> Check.equal("bonusIfDrained", withLanes(6, 0).bonusIfDrained(), 0));
        Edges.edge("one bonus unit, six times", () -> {
            PinballScorer x = withLanes(6, 0);
            x.hitTarget(0);
            Check.equal("bonusIfDrained", x.bonusIfDrained(), 600);
            Check.equal("drain", x.drain(), 600);
        });
        Edges.promise(33, "Returns the points, 0 if the ball is tilted or would be saved.");
        Edges.edge("a tilted ball", () -> {
            PinballScorer x = Check.started(1);
            Check.clearBank(x);
            Check.equal("before", x.bonusIfDrained(), 800);
            Check.tilt(x);
            Check.equal("tilted", x.bonusIfDrained(), 0);
        });
        Edges.edge("three hits, then four", () -> {
            PinballScorer x = Check.started(1);
            x.hitTarget(0);
            x.hitTarget(1);
            x.hitTarget(2);
            Check.equal("would be saved", x.bonusIfDrained(), 0);
            x.hitTarget(2);
            Check.equal("would not be saved", x.bonusIfDrained(), 300);
        });
        Edges.edge("three hits with a ball that has been saved", () -> {
            PinballScorer x = Check.started(1);
            x.drain();
            x.hitTarget(0);
            x.hitTarget(1);
            x.hitTarget(2);
            Check.equal("bonusIfDrained", x.bonusIfDrained(), 300);
        });
        Edges.promise(33, WITHOUT_GAME);
        Edges.needsGame(PinballScorer::bonusIfDrained);
    }

    private static void nextPlayer() {
        Edges.promise(34, "Returns who would play after the ball drained now. An extra ball that the bonus would bring "
                + "counts.");
        Edges.edge("a bonus to 4990", () -> Check.equal("nextPlayer", withBonusTo(4990).nextPlayer(), 1));
        Edges.edge("a bonus to 5000", () -> Check.equal("nextPlayer", withBonusTo(5000).nextPlayer(), 0));
        Edges.edge("a bonus above 5000", () -> Check.equal("nextPlayer", withBonusTo(5090).nextPlayer(), 0));
        Edges.edge("a bonus to 5000 with a tilted ball", () -> {
            PinballScorer x = withBonusTo(5000);
            Check.tilt(x);
            Check.equal("nextPlayer", x.nextPlayer(), 1);
        });
        Edges.edge("a bonus to 5000 with a ball that would be saved", () -> {
            PinballScorer x = Check.started(1);
            Edges.scoreUpTo(x, 4700);
            Check.loseBall(x);
            x.hitTarget(0);
            Check.equal("would be saved", x.wouldBeSaved(), true);
            Check.equal("nextPlayer", x.nextPlayer(), 0);
        });
        Edges.edge("a bonus after the milestone", () -> {
            PinballScorer x = Check.started(2);
            Edges.scoreUpTo(x, 5000);
            x.drain();
            Check.clearBank(x);
            Check.equal("nextPlayer", x.nextPlayer(), 1);
        });
        Edges.edge("an extra ball at hand", () -> {
            PinballScorer x = Check.started(2);
            Check.clearBank(x);
            Check.clearBank(x);
            Check.equal("nextPlayer", x.nextPlayer(), 0);
            Check.tilt(x);
            Check.equal("nextPlayer when tilted", x.nextPlayer(), 0);
        });
        Edges.edge("the last player, then player 0", () -> {
            PinballScorer x = Check.started(4);
            Check.loseBalls(x, 2);
            x.drain();
            Check.equal("after player 2", x.nextPlayer(), 3);
            x.drain();
            x.drain();
            Check.equal("after player 3", x.nextPlayer(), 0);
        });
        Edges.promise(34, "Returns the index of the player, also if the player would be the same one.");
        Edges.edge("a ball that would be saved", () -> Check.equal("nextPlayer", Check.started(2).nextPlayer(), 0));
        Edges.edge("the last player's ball that would be saved", () -> {
            PinballScorer x = Check.started(4);
            Check.loseBalls(x, 3);
            Check.equal("nextPlayer", x.nextPlayer(), 3);
        });
        Edges.edge("the last player's extra ball", () -> {
            PinballScorer x = Check.started(4);
            Check.loseBalls(x, 3);
            Check.clearBank(x);
            Check.clearBank(x);
            Check.equal("nextPlayer", x.nextPlayer(), 3);
            x.drain();
            Check.equal("currentPlayer", x.currentPlayer(), 3);
        });
        Edges.edge("one player alone", () -> {
            PinballScorer x = Check.started(1);
            x.drain();
            Check.equal("nextPlayer", x.nextPlayer(), 0);
        });
        Edges.promise(34, WITHOUT_GAME);
        Edges.needsGame(PinballScorer::nextPlayer);
    }

    private static PinballScorer withBonusTo(int points) {
        PinballScorer x = Check.started(2);
        Edges.scoreUpTo(x, points - 300);
        x.hitTarget(0);
        Check.equal("score and bonus", x.score(0) + x.bonusIfDrained(), points);
        return x;
    }

    private static void gameWouldBeOver() {
        Edges.promise(34, "Throws `NoSuchElementException` if the game would be over");
        Edges.edge("the last ball, when it has been saved", () -> {
            PinballScorer x = Check.started(1);
            Check.loseBalls(x, 2);
            Check.equal("before", x.nextPlayer(), 0);
            x.drain();
            refusesNext(x);
        });
        Edges.edge("the last ball, tilted", () -> {
            PinballScorer x = Check.started(1);
            Check.loseBalls(x, 2);
            Check.tilt(x);
            refusesNext(x);
        });
        Edges.edge("the last player's ball 3 of four", () -> {
            PinballScorer x = Check.started(4);
            Check.loseBalls(x, 10);
            x.drain();
            Check.equal("the player before", x.nextPlayer(), 3);
            x.drain();
            x.drain();
            refusesNext(x);
        });
        Edges.edge("the last player's ball 2", () -> {
            PinballScorer x = Check.started(2);
            Check.loseBalls(x, 3);
            x.drain();
            Check.equal("nextPlayer", x.nextPlayer(), 0);
        });
        Edges.edge("the last ball with an extra ball", () -> {
            PinballScorer x = Check.started(1);
            Check.loseBalls(x, 2);
            Check.clearBank(x);
            refusesNext(x);
            Check.clearBank(x);
            Check.equal("nextPlayer", x.nextPlayer(), 0);
        });
        Edges.edge("the last ball whose bonus would reach 4990", () -> refusesNext(lastBallWithBonusTo(4990)));
        Edges.edge("the last ball whose bonus would reach 5000", () -> {
            PinballScorer x = lastBallWithBonusTo(5000);
            Check.equal("nextPlayer", x.nextPlayer(), 0);
            Check.tilt(x);
            refusesNext(x);
        });
    }

    private static PinballScorer lastBallWithBonusTo(int points) {
        PinballScorer x = Check.started(1);
        Check.loseBalls(x, 2);
        Edges.scoreUpTo(x, points - 300);
        x.hitTarget(0);
        return x;
    }

    private static void refusesNext(PinballScorer x) {
        Check.refuses("nextPlayer", x, NoSuchElementException.class, x::nextPlayer);
    }
}
