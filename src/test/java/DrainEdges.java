import java.util.function.Consumer;

/** Edges of nudging and draining: promises 7 and 8, and the terms about both. */
final class DrainEdges {
    private static final String WITHOUT_GAME = "Throws `IllegalStateException` if no game is running";

    private DrainEdges() {
    }

    static void run() {
        forces();
        warnings();
        hitsCalm();
        nudgedTilted();
        saved();
        awarded();
        extraBall();
        turns();
        over();
    }

    private static void forces() {
        Edges.terms("A nudge has a force from 1 to 3, which is added to the tilt meter.");
        for (int i = 1; i <= 3; i++) {
            int force = i;
            Edges.edge("force " + force, () -> {
                PinballScorer x = Check.started(1);
                Check.equal("nudge", x.nudge(force), 0);
                Check.equal("tiltMeter", x.tiltMeter(), force);
            });
        }
        Edges.promise(7, "Throws `IllegalArgumentException` if the force is not between 1 and 3");
        for (int force : new int[] {0, 4, -1, Integer.MAX_VALUE, Integer.MIN_VALUE}) {
            Edges.edge("force " + force + " in a game", () -> refusesForce(Check.started(1), force));
            Edges.edge("force " + force + " without a game", () -> refusesForce(Check.withPlayers(1), force));
            Edges.edge("force " + force + " with a tilted ball", () -> {
                PinballScorer x = Check.started(1);
                Check.tilt(x);
                refusesForce(x, force);
            });
        }
        Edges.promise(7, WITHOUT_GAME);
        Edges.needsGame(x -> x.nudge(1));
        Edges.needsGame(x -> x.nudge(3));
    }

    private static void refusesForce(PinballScorer x, int force) {
        Check.refuses("nudge", x, IllegalArgumentException.class, () -> x.nudge(force));
    }

    private static void warnings() {
        Edges.terms("If the tilt meter is 5 or more then, it becomes 0 and the number of warnings increases by 1;");
        Edges.edge("4", () -> nudges(0, 4, 3, 1));
        Edges.edge("4 by ones and twos", () -> nudges(0, 4, 1, 1, 2));
        Edges.edge("5, by 2", () -> nudges(1, 0, 3, 2));
        Edges.edge("5, by 1", () -> nudges(1, 0, 3, 1, 1));
        Edges.edge("5, by 3", () -> nudges(1, 0, 2, 3));
        Edges.edge("6", () -> nudges(1, 0, 3, 3));
        Edges.edge("7, the greatest", () -> nudges(1, 0, 3, 1, 3));
        Edges.edge("what is above 5 is lost", () -> nudges(1, 3, 3, 1, 3, 3));
        Edges.terms("with the third warning, the ball is tilted.");
        Edges.edge("the second warning", () -> {
            PinballScorer x = nudges(2, 0, 3, 3, 3, 3);
            Check.equal("isTilted", x.isTilted(), false);
            Check.equal("tiltedBalls", x.tiltedBalls(), 0);
        });
        Edges.edge("4 after the second warning", () -> {
            PinballScorer x = nudges(2, 4, 3, 3, 3, 3, 3, 1);
            Check.equal("isTilted", x.isTilted(), false);
        });
        Edges.edge("the third warning", () -> {
            PinballScorer x = nudges(3, 0, 3, 3, 3, 3, 3, 2);
            Check.equal("isTilted", x.isTilted(), true);
            Check.equal("tiltedBalls", x.tiltedBalls(), 1);
        });
        Edges.promise(7, "Returns the number of warnings of the ball after the call.");
        Edges.edge("each nudge on the way to the tilt, and one after it", () -> {
            PinballScorer x = Check.started(1);
            int[] due = {0, 1, 1, 2, 2, 3, 3};
            for (int warnings : due) {
                Check.equal("nudge", x.nudge(3), warnings);
            }
        });
    }

    /** The last nudge's answer and the tilt meter after it. */
    private static PinballScorer nudges(int dueWarnings, int dueMeter, int... forces) {
        PinballScorer x = Check.started(1);
        int answer = 0;
        for (int force : forces) {
            answer = x.nudge(force);
        }
        Check.equal("the last nudge", answer, dueWarnings);
        Check.equal("warnings", x.warnings(), dueWarnings);
        Check.equal("tiltMeter", x.tiltMeter(), dueMeter);
        return x;
    }

    private static void hitsCalm() {
        Edges.terms("Each hit while the ball is not tilted decreases the tilt meter by 1, but not below 0.");
        Edges.edge("a lane, from 4 to 3", () -> calmed(4, 3, x -> x.hitLane(0)));
        Edges.edge("a bumper, from 4 to 3", () -> calmed(4, 3, x -> x.hitBumper(0)));
        Edges.edge("a target, from 4 to 3", () -> calmed(4, 3, x -> x.hitTarget(0)));
        Edges.edge("a lane, from 1 to 0", () -> calmed(1, 0, x -> x.hitLane(0)));
        Edges.edge("a bumper, from 1 to 0", () -> calmed(1, 0, x -> x.hitBumper(0)));
        Edges.edge("a target, from 1 to 0", () -> calmed(1, 0, x -> x.hitTarget(0)));
        Edges.edge("a lane, 0 stays 0", () -> calmed(0, 0, x -> x.hitLane(0)));
        Edges.edge("a bumper, 0 stays 0", () -> calmed(0, 0, x -> x.hitBumper(0)));
        Edges.edge("a target, 0 stays 0", () -> calmed(0, 0, x -> x.hitTarget(0)));
        Edges.edge("a lit lane and a target that is down", () -> {
            PinballScorer x = Check.started(1);
            x.hitLane(0);
            x.hitTarget(0);
            x.nudge(3);
            x.hitLane(0);
            Check.equal("after the lane", x.tiltMeter(), 2);
            x.hitTarget(0);
            Check.equal("after the target", x.tiltMeter(), 1);
        });
        Edges.edge("0 gives no credit: 4 nudged after many hits", () -> {
            PinballScorer x = Check.started(1);
            Check.times(5, () -> x.hitLane(0));
            x.nudge(3);
            Check.equal("nudge", x.nudge(2), 1);
        });
        Edges.edge("a hit between keeps it below 5", () -> {
            PinballScorer x = Check.started(1);
            x.nudge(3);
            x.hitLane(0);
            Check.equal("nudge", x.nudge(2), 0);
            Check.equal("tiltMeter", x.tiltMeter(), 4);
        });
        Edges.edge("a refused hit does not calm", () -> {
            PinballScorer x = Check.started(1);
            x.nudge(3);
            Check.fails("hitLane", IndexOutOfBoundsException.class, () -> x.hitLane(-1));
            Check.equal("tiltMeter", x.tiltMeter(), 3);
        });
    }

    private static void calmed(int before, int after, Consumer<PinballScorer> hit) {
        PinballScorer x = Check.started(1);
        Check.times(before, () -> x.nudge(1));
        Check.equal("tiltMeter before", x.tiltMeter(), before);
        hit.accept(x);
        Check.equal("tiltMeter after", x.tiltMeter(), after);
    }

    private static void nudgedTilted() {
        Edges.terms("Nudging a tilted ball changes nothing.");
        for (int i = 1; i <= 3; i++) {
            int force = i;
            Edges.edge("six times with force " + force, () -> {
                PinballScorer x = Check.started(1);
                Check.tilt(x);
                String before = Check.state(x);
                for (int j = 0; j < 6; j++) {
                    Check.equal("nudge", x.nudge(force), 3);
                }
                Check.equal("the state", Check.state(x), before);
            });
        }
    }

    private static void saved() {
        Edges.terms("When a ball drains that is not tilted, has at most 3 hits and has not been saved, it is saved: it "
                + "stays in play, nothing else changes, and it cannot be saved again.");
        Edges.edge("no hit", () -> savedWith(0));
        Edges.edge("three hits", () -> savedWith(3));
        Edges.edge("four hits", () -> {
            PinballScorer x = Check.started(2);
            Check.times(4, () -> x.hitTarget(0));
            Check.equal("drain", x.drain(), 100);
            Check.equal("currentPlayer", x.currentPlayer(), 1);
            Check.equal("drainedBalls", x.drainedBalls(), 1);
        });
        Edges.edge("no hit, for the second time", () -> {
            PinballScorer x = Check.started(2);
            x.drain();
            x.drain();
            Check.equal("currentPlayer", x.currentPlayer(), 1);
        });
        Edges.edge("three hits after it was saved", () -> {
            PinballScorer x = Check.started(2);
            x.drain();
            Check.times(3, () -> x.hitTarget(0));
            Check.equal("drain", x.drain(), 100);
            Check.equal("currentPlayer", x.currentPlayer(), 1);
        });
        Edges.edge("a tilted ball without hits", () -> {
            PinballScorer x = Check.started(2);
            Check.tilt(x);
            Check.equal("drain", x.drain(), 0);
            Check.equal("currentPlayer", x.currentPlayer(), 1);
        });
        Edges.edge("a ball that was saved and then tilted", () -> {
            PinballScorer x = Check.started(2);
            x.drain();
            Check.tilt(x);
            x.drain();
            Check.equal("currentPlayer", x.currentPlayer(), 1);
        });
        Edges.edge("a saved ball keeps its warnings and its meter", () -> {
            PinballScorer x = Check.started(2);
            Check.times(3, () -> x.nudge(3));
            x.drain();
            Check.equal("meter and warnings", x.tiltMeter() + "/" + x.warnings(), "3/1");
        });
        Edges.edge("a saved ball uses no extra ball up", () -> {
            PinballScorer x = Check.started(1);
            GameEdges.twoExtraBalls(x);
            x.drain();
            Check.equal("before", x.extraBalls(0), 1);
            x.drain();
            Check.equal("saved", x.extraBalls(0), 1);
            x.drain();
            Check.equal("not saved", x.extraBalls(0), 0);
        });
        Edges.edge("the very last ball of a game", () -> {
            PinballScorer x = Check.started(1);
            Check.loseBalls(x, 2);
            Check.equal("drain", x.drain(), 0);
            Check.equal("isRunning", x.isRunning(), true);
            Check.equal("recordCount", x.recordCount(), 0);
        });
    }

    private static void savedWith(int hits) {
        PinballScorer x = Check.started(2);
        for (int i = 0; i < hits; i++) {
            x.hitTarget(i);
        }
        String before = Check.state(x);
        Check.equal("drain", x.drain(), 0);
        Check.equal("the state", Check.state(x), before.replace("saved=true", "saved=false"));
        Check.equal("drain again", x.drain(), 100 * hits);
        Check.equal("the next player", x.currentPlayer(), 1);
    }

    private static void awarded() {
        Edges.terms("Otherwise, if the ball is not tilted, 100 points for each bonus unit are awarded, by which the "
                + "milestone may be reached.");
        Edges.edge("no bonus unit", () -> {
            PinballScorer x = Check.started(1);
            Check.clearLanes(x);
            Check.equal("drain", x.drain(), 0);
            Check.equal("score", x.score(0), 400);
        });
        Edges.edge("one bonus unit", () -> {
            PinballScorer x = Check.started(1);
            Check.times(4, () -> x.hitTarget(0));
            Check.equal("drain", x.drain(), 100);
            Check.equal("score", x.score(0), 360);
        });
        Edges.edge("a tilted ball's bonus units", () -> {
            PinballScorer x = Check.started(1);
            Check.clearBank(x);
            Check.tilt(x);
            Check.equal("drain", x.drain(), 0);
            Check.equal("score", x.score(0), 1000);
            Check.equal("pointsOf u", x.pointsOf('u'), 0);
        });
        Edges.edge("a tilted ball whose bonus would reach the milestone", () -> {
            PinballScorer x = Check.started(2);
            Edges.scoreUpTo(x, 4700);
            x.hitTarget(0);
            Check.tilt(x);
            x.drain();
            Check.equal("score", x.score(0), 4900);
            Check.equal("currentPlayer", x.currentPlayer(), 1);
        });
        Edges.edge("the bonus of the last ball reaches the milestone", () -> {
            PinballScorer x = Check.started(1);
            Check.loseBalls(x, 2);
            Edges.scoreUpTo(x, 4700);
            x.hitTarget(0);
            Check.equal("drain", x.drain(), 100);
            Check.equal("isRunning", x.isRunning(), true);
            Check.equal("ballNumber", x.ballNumber(), 3);
            Check.equal("extraBalls", x.extraBalls(0), 0);
        });
        Edges.promise(8, "Returns the points that are awarded for bonus units.");
        Edges.edge("a saved ball's bonus units", () -> {
            PinballScorer x = Check.started(1);
            x.hitTarget(0);
            Check.equal("drain", x.drain(), 0);
            Check.equal("drain again", x.drain(), 100);
        });
        Edges.edge("eight units of one bank, six times", () -> {
            PinballScorer x = Check.started(1);
            for (int i = 0; i < 5; i++) {
                Check.clearLanes(x);
            }
            Check.clearBank(x);
            Check.equal("drain", x.drain(), 4800);
        });
        Edges.promise(8, WITHOUT_GAME);
        Edges.needsGame(PinballScorer::drain);
    }

    private static void extraBall() {
        Edges.terms("Then, whether or not the ball is tilted, if the player has an extra ball, one extra ball is used up "
                + "and the player plays a new ball with the same ball number.");
        Edges.edge("a ball that is not tilted", () -> usesExtraBall(false));
        Edges.edge("a tilted ball", () -> usesExtraBall(true));
        Edges.edge("the milestone's extra ball of this very drain", () -> {
            PinballScorer x = Check.started(2);
            Edges.scoreUpTo(x, 4700);
            x.hitTarget(0);
            x.drain();
            Check.equal("player and ball", x.currentPlayer() + "/" + x.ballNumber(), "0/1");
            Check.equal("extraBalls", x.extraBalls(0), 0);
        });
        Edges.edge("a bank's extra ball and the milestone's of this very drain", () -> {
            PinballScorer x = Check.started(2);
            Edges.scoreUpTo(x, 2400);
            Check.clearBank(x);
            Check.clearBank(x);
            Check.equal("before", x.score(0) + "/" + x.extraBalls(0), "4400/1");
            x.drain();
            Check.equal("after", x.score(0) + "/" + x.extraBalls(0), "6000/1");
        });
        Edges.edge("the other player's extra ball does not count", () -> {
            PinballScorer x = Check.started(2);
            Check.loseBall(x);
            GameEdges.twoExtraBalls(x);
            Check.loseBall(x);
            Check.equal("its own", x.currentPlayer() + "/" + x.extraBalls(1), "1/1");
            Check.loseBall(x);
            Check.equal("none left", x.currentPlayer() + "/" + x.extraBalls(1), "1/0");
            Check.loseBall(x);
            Check.equal("the first player's ball 2", x.currentPlayer() + "/" + x.ballNumber(), "0/2");
            Check.loseBall(x);
            Check.equal("the second player's ball 2", x.currentPlayer() + "/" + x.ballNumber(), "1/2");
        });
    }

    private static void usesExtraBall(boolean tilted) {
        PinballScorer x = Check.started(2);
        Check.loseBalls(x, 3);
        Check.clearBank(x);
        Check.clearBank(x);
        if (tilted) {
            Check.tilt(x);
        }
        Check.equal("before", x.currentPlayer() + "/" + x.ballNumber() + "/" + x.extraBalls(1), "1/2/1");
        Check.equal("drain", x.drain(), tilted ? 0 : 1600);
        Check.equal("after", x.currentPlayer() + "/" + x.ballNumber() + "/" + x.extraBalls(1), "1/2/0");
        Check.equal("a new ball", x.hits() + "/" + x.isTilted() + "/" + x.wouldBeSaved(), "0/false/true");
        Check.equal("drainedBalls", x.drainedBalls(), 4);
    }

    private static void turns() {
        Edges.terms("Otherwise the next player plays; after the last player, the ball number increases by 1 and player 0 "
                + "plays.");
        Edges.edge("four players, three balls", () -> {
            PinballScorer x = Check.started(4);
            for (int ball = 1; ball <= 3; ball++) {
                for (int player = 0; player < 4; player++) {
                    Check.equal("player and ball", x.currentPlayer() + "/" + x.ballNumber(), player + "/" + ball);
                    Check.loseBall(x);
                }
            }
            Check.equal("isRunning", x.isRunning(), false);
        });
        Edges.edge("one player, who is the last one too", () -> {
            PinballScorer x = Check.started(1);
            for (int ball = 1; ball <= 3; ball++) {
                Check.equal("player and ball", x.currentPlayer() + "/" + x.ballNumber(), "0/" + ball);
                Check.loseBall(x);
            }
            Check.equal("isRunning", x.isRunning(), false);
        });
        Edges.edge("tilted balls take turns too", () -> {
            PinballScorer x = Check.started(2);
            for (int i = 0; i < 6; i++) {
                Check.equal("player and ball", x.currentPlayer() + "/" + x.ballNumber(), i % 2 + "/" + (1 + i / 2));
                Check.tilt(x);
                x.drain();
            }
            Check.equal("isRunning", x.isRunning(), false);
        });
    }

    private static void over() {
        Edges.terms("After ball 3 of the last player without an extra ball, the game is over: it is not running any more, "
                + "and the scores of all players, in the order of players, are entered into the records.");
        Edges.edge("ball 3 of the player before the last", () -> {
            PinballScorer x = Check.started(4);
            Check.loseBalls(x, 11);
            Check.equal("isRunning", x.isRunning(), true);
            Check.equal("player and ball", x.currentPlayer() + "/" + x.ballNumber(), "3/3");
            Check.equal("recordCount", x.recordCount(), 0);
        });
        Edges.edge("ball 3 of the last player", () -> {
            PinballScorer x = Check.started(4);
            Check.loseBalls(x, 12);
            Check.equal("isRunning", x.isRunning(), false);
            Check.equal("the records", Check.output(x, x::renderRecords), "0@1p0,0@1p1,0@1p2,0@1p3");
        });
        Edges.edge("ball 3 of the last player with an extra ball", () -> {
            PinballScorer x = Check.started(2);
            Check.loseBalls(x, 5);
            Check.clearBank(x);
            Check.clearBank(x);
            x.drain();
            Check.equal("isRunning", x.isRunning(), true);
            Check.equal("recordCount", x.recordCount(), 0);
            Check.equal("player and ball", x.currentPlayer() + "/" + x.ballNumber(), "1/3");
            Check.loseBall(x);
            Check.equal("isRunning then", x.isRunning(), false);
            Check.equal("the records", Check.output(x, x::renderRecords), "3600@1p1,0@1p0");
        });
        Edges.edge("the last ball's bonus is in the record", () -> {
            PinballScorer x = Check.started(1);
            Check.loseBalls(x, 2);
            Check.clearBank(x);
            x.drain();
            Check.equal("recordScore", x.recordScore(0), 1800);
            Check.equal("score", x.score(0), 1800);
        });
        Edges.edge("the last ball tilted", () -> {
            PinballScorer x = Check.started(1);
            Check.loseBalls(x, 2);
            Check.clearBank(x);
            Check.tilt(x);
            x.drain();
            Check.equal("isRunning", x.isRunning(), false);
            Check.equal("recordScore", x.recordScore(0), 1000);
        });
        Edges.edge("equal scores are entered in the order of players", () -> {
            PinballScorer x = Check.started(3);
            for (int i = 0; i < 3; i++) {
                x.hitLane(i);
                Check.loseBall(x);
            }
            Check.loseBalls(x, 6);
            Check.equal("the records", Check.output(x, x::renderRecords), "100@1p0,100@1p1,100@1p2");
        });
    }
}
