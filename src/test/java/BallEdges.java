import java.util.function.Consumer;

/** Edges of the ball in play: promises 18 to 28, and the terms about balls. */
final class BallEdges {
    private static final String WITHOUT_GAME = "Throws `IllegalStateException` if no game is running";

    private BallEdges() {
    }

    static void run() {
        newBall();
        multiplied();
        tiltedBall();
        multiplier();
        isLit();
        bumperValue();
        isDown();
        completedBanks();
        bonusUnits();
        tiltMeter();
        warnings();
        isTilted();
        hits();
        wouldBeSaved();
    }

    private static void newBall() {
        Edges.terms("When a new ball begins, the multiplier is 1, no lane is lit, the value of each bumper is 50 points, "
                + "all targets are up, the number of completed banks, the bonus units, the tilt meter, the warnings and "
                + "the number of hits are 0, and the ball is not tilted and has not been saved.");
        Edges.edge("the first ball of a game", () -> isNew(Check.started(1)));
        Edges.edge("the next player's ball", () -> {
            PinballScorer x = Check.started(2);
            wearOut(x);
            x.drain();
            Check.equal("the player", x.currentPlayer(), 1);
            isNew(x);
        });
        Edges.edge("the same player's next ball", () -> {
            PinballScorer x = Check.started(1);
            wearOut(x);
            x.drain();
            Check.equal("the ball", x.ballNumber(), 2);
            isNew(x);
        });
        Edges.edge("an extra ball", () -> {
            PinballScorer x = Check.started(1);
            wearOut(x);
            x.hitTarget(0);
            x.hitTarget(2);
            x.hitTarget(4);
            Check.equal("the extra balls", x.extraBalls(0), 1);
            x.drain();
            Check.equal("the ball", x.ballNumber(), 1);
            isNew(x);
        });
        Edges.edge("the ball after a tilted one", () -> {
            PinballScorer x = Check.started(1);
            wearOut(x);
            Check.tilt(x);
            x.drain();
            isNew(x);
        });
        Edges.edge("the ball after one that was saved", () -> {
            PinballScorer x = Check.started(1);
            x.drain();
            Check.equal("before", x.wouldBeSaved(), false);
            x.drain();
            isNew(x);
        });
    }

    /** Changes everything of the ball in play that a hit or a nudge can change, without an extra ball for it. */
    private static void wearOut(PinballScorer x) {
        x.drain();
        Check.clearBank(x);
        x.hitTarget(1);
        x.hitTarget(3);
        for (int i = 0; i < 3; i++) {
            x.hitBumper(i);
        }
        Check.clearLanes(x);
        for (int i = 0; i < 3; i++) {
            x.hitLane(i);
        }
        Check.times(3, () -> x.nudge(3));
        Check.equal("meter and warnings", x.tiltMeter() + "/" + x.warnings(), "3/1");
    }

    private static void isNew(PinballScorer x) {
        Check.equal("multiplier", x.multiplier(), 1);
        for (int i = 0; i < 4; i++) {
            Check.equal("isLit " + i, x.isLit(i), false);
        }
        for (int i = 0; i < 3; i++) {
            Check.equal("bumperValue " + i, x.bumperValue(i), 50);
        }
        for (int i = 0; i < 5; i++) {
            Check.equal("isDown " + i, x.isDown(i), false);
        }
        Check.equal("completedBanks", x.completedBanks(), 0);
        Check.equal("bonusUnits", x.bonusUnits(), 0);
        Check.equal("tiltMeter", x.tiltMeter(), 0);
        Check.equal("warnings", x.warnings(), 0);
        Check.equal("hits", x.hits(), 0);
        Check.equal("isTilted", x.isTilted(), false);
        Check.equal("wouldBeSaved", x.wouldBeSaved(), true);
    }

    private static void multiplied() {
        Edges.terms("All points for lanes, bumpers, targets and bonus units are multiplied by the multiplier.");
        Edges.edge("a lane that is not lit, six times", () -> Check.equal("hitLane", sixTimes().hitLane(0), 600));
        Edges.edge("a lit lane, six times", () -> {
            PinballScorer x = sixTimes();
            x.hitLane(0);
            Check.equal("hitLane", x.hitLane(0), 60);
        });
        Edges.edge("a new bumper, six times", () -> Check.equal("hitBumper", sixTimes().hitBumper(0), 300));
        Edges.edge("a bumper at its greatest value, six times", () -> {
            PinballScorer x = sixTimes();
            Check.times(15, () -> x.hitBumper(0));
            Check.equal("hitBumper", x.hitBumper(0), 1200);
        });
        Edges.edge("a target that is up, six times", () -> Check.equal("hitTarget", sixTimes().hitTarget(0), 1200));
        Edges.edge("a target that is down, six times", () -> {
            PinballScorer x = sixTimes();
            x.hitTarget(0);
            Check.equal("hitTarget", x.hitTarget(0), 120);
        });
        Edges.edge("the target that completes the bank, six times", () -> {
            PinballScorer x = sixTimes();
            for (int target = 0; target < 4; target++) {
                x.hitTarget(target);
            }
            Check.equal("hitTarget", x.hitTarget(4), 1200);
        });
        Edges.edge("one bonus unit, six times", () -> {
            PinballScorer x = sixTimes();
            x.hitTarget(0);
            Check.equal("drain", x.drain(), 600);
        });
        Edges.edge("bonus units from before the increase", () -> {
            PinballScorer x = Check.started(1);
            x.hitTarget(0);
            Check.clearLanes(x);
            Check.equal("drain", x.drain(), 200);
        });
    }

    private static PinballScorer sixTimes() {
        PinballScorer x = Check.started(1);
        for (int i = 0; i < 5; i++) {
            Check.clearLanes(x);
        }
        return x;
    }

    private static void tiltedBall() {
        Edges.terms("While a ball is tilted, hits score nothing and change nothing except that they are counted.");
        Edges.edge("the last lane", () -> staysButForHits(x -> x.hitLane(3)));
        Edges.edge("a lit lane", () -> staysButForHits(x -> x.hitLane(0)));
        Edges.edge("a bumper", () -> staysButForHits(x -> x.hitBumper(2)));
        Edges.edge("the last target of the second bank", () -> staysButForHits(x -> x.hitTarget(4)));
        Edges.edge("a target that is down", () -> staysButForHits(x -> x.hitTarget(0)));
        Edges.edge("a hit that would reach the milestone", () -> {
            PinballScorer x = Check.started(1);
            Edges.scoreUpTo(x, 4990);
            Check.tilt(x);
            Check.equal("hitBumper", x.hitBumper(1), 0);
            Check.equal("score and extra balls", x.score(0) + "/" + x.extraBalls(0), "4990/0");
        });
        Edges.edge("a refused hit is not counted", () -> {
            PinballScorer x = Check.started(1);
            Check.tilt(x);
            Check.refuses("hitLane", x, IndexOutOfBoundsException.class, () -> x.hitLane(4));
            Check.equal("hits", x.hits(), 0);
        });
    }

    /** Hits a tilted ball with one lane not lit, one bank completed and one target up. */
    private static void staysButForHits(Consumer<PinballScorer> hit) {
        PinballScorer x = Check.started(1);
        Check.clearBank(x);
        for (int i = 0; i < 3; i++) {
            x.hitLane(i);
        }
        for (int i = 0; i < 4; i++) {
            x.hitTarget(i);
        }
        Check.tilt(x);
        String before = Check.state(x);
        hit.accept(x);
        Check.equal("the state", Check.state(x), before.replace("hits=12 ", "hits=13 "));
        hit.accept(x);
        Check.equal("the state after two", Check.state(x), before.replace("hits=12 ", "hits=14 "));
    }

    private static void multiplier() {
        Edges.promise(18, "Returns the multiplier.");
        Edges.edge("1, the least", () -> Check.equal("multiplier", Check.started(1).multiplier(), 1));
        Edges.edge("6, the greatest", () -> Check.equal("multiplier", sixTimes().multiplier(), 6));
        Edges.edge("6 of a tilted ball", () -> {
            PinballScorer x = sixTimes();
            Check.tilt(x);
            Check.equal("multiplier", x.multiplier(), 6);
        });
        Edges.promise(18, WITHOUT_GAME);
        Edges.needsGame(PinballScorer::multiplier);
    }

    private static void isLit() {
        Edges.promise(19, "Returns whether a lane is lit.");
        for (int i = 0; i < 4; i++) {
            int lane = i;
            Edges.edge("lane " + lane + " alone", () -> {
                PinballScorer x = Check.started(1);
                x.hitLane(lane);
                for (int other = 0; other < 4; other++) {
                    Check.equal("isLit " + other, x.isLit(other), other == lane);
                }
            });
        }
        Edges.promise(19, "Throws `IndexOutOfBoundsException` if there is no such lane");
        Edges.hasIndices(4, PinballScorer::isLit);
        Edges.promise(19, WITHOUT_GAME);
        Edges.needsGame(x -> x.isLit(0));
        Edges.needsGame(x -> x.isLit(3));
    }

    private static void bumperValue() {
        Edges.promise(20, "Returns the value of a bumper, without the multiplier.");
        Edges.edge("50, the least, six times", () -> Check.equal("bumperValue", sixTimes().bumperValue(2), 50));
        Edges.edge("200, the greatest, six times", () -> {
            PinballScorer x = sixTimes();
            Check.times(16, () -> x.hitBumper(2));
            Check.equal("bumperValue", x.bumperValue(2), 200);
        });
        for (int i = 0; i < 3; i++) {
            int bumper = i;
            Edges.edge("bumper " + bumper + " alone", () -> {
                PinballScorer x = Check.started(1);
                x.hitBumper(bumper);
                for (int other = 0; other < 3; other++) {
                    Check.equal("bumperValue " + other, x.bumperValue(other), other == bumper ? 60 : 50);
                }
            });
        }
        Edges.promise(20, "Throws `IndexOutOfBoundsException` if there is no such bumper");
        Edges.hasIndices(3, PinballScorer::bumperValue);
        Edges.promise(20, WITHOUT_GAME);
        Edges.needsGame(x -> x.bumperValue(0));
        Edges.needsGame(x -> x.bumperValue(2));
    }

    private static void isDown() {
        Edges.promise(21, "Returns whether a target is down.");
        for (int i = 0; i < 5; i++) {
            int target = i;
            Edges.edge("target " + target + " alone", () -> {
                PinballScorer x = Check.started(1);
                x.hitTarget(target);
                for (int other = 0; other < 5; other++) {
                    Check.equal("isDown " + other, x.isDown(other), other == target);
                }
            });
        }
        Edges.promise(21, "Throws `IndexOutOfBoundsException` if there is no such target");
        Edges.hasIndices(5, PinballScorer::isDown);
        Edges.promise(21, WITHOUT_GAME);
        Edges.needsGame(x -> x.isDown(0));
        Edges.needsGame(x -> x.isDown(4));
    }

    private static void completedBanks() {
        Edges.promise(22, "Returns the number of banks that have been completed with this ball.");
        Edges.edge("none with four targets down, one with the fifth", () -> {
            PinballScorer x = Check.started(1);
            for (int target = 4; target > 0; target--) {
                x.hitTarget(target);
            }
            Check.equal("four", x.completedBanks(), 0);
            x.hitTarget(0);
            Check.equal("five", x.completedBanks(), 1);
        });
        Edges.edge("the banks of an earlier ball do not count", () -> {
            PinballScorer x = Check.started(1);
            Check.clearBank(x);
            x.drain();
            Check.clearBank(x);
            Check.equal("completedBanks", x.completedBanks(), 1);
        });
        Edges.edge("many", () -> {
            PinballScorer x = Check.started(1);
            for (int i = 0; i < 20; i++) {
                Check.clearBank(x);
            }
            Check.equal("completedBanks", x.completedBanks(), 20);
        });
        Edges.promise(22, WITHOUT_GAME);
        Edges.needsGame(PinballScorer::completedBanks);
    }

    private static void bonusUnits() {
        Edges.promise(23, "Returns the bonus units.");
        Edges.edge("none, one, four, eight", () -> {
            PinballScorer x = Check.started(1);
            Check.equal("no target", x.bonusUnits(), 0);
            x.hitTarget(0);
            Check.equal("one target", x.bonusUnits(), 1);
            x.hitTarget(1);
            x.hitTarget(2);
            x.hitTarget(3);
            Check.equal("four targets", x.bonusUnits(), 4);
            x.hitTarget(4);
            Check.equal("the bank", x.bonusUnits(), 8);
            x.hitTarget(4);
            Check.equal("a target of the next bank", x.bonusUnits(), 9);
        });
        Edges.edge("a saved ball keeps them", () -> {
            PinballScorer x = Check.started(1);
            x.hitTarget(0);
            x.drain();
            Check.equal("bonusUnits", x.bonusUnits(), 1);
        });
        Edges.edge("a tilted ball keeps them", () -> {
            PinballScorer x = Check.started(1);
            x.hitTarget(0);
            Check.tilt(x);
            Check.equal("bonusUnits", x.bonusUnits(), 1);
        });
        Edges.promise(23, WITHOUT_GAME);
        Edges.needsGame(PinballScorer::bonusUnits);
    }

    private static void tiltMeter() {
        Edges.promise(24, "Returns the tilt meter.");
        Edges.edge("0, the least, and 4, the greatest", () -> {
            PinballScorer x = Check.started(1);
            Check.equal("the least", x.tiltMeter(), 0);
            x.nudge(3);
            x.nudge(1);
            Check.equal("the greatest", x.tiltMeter(), 4);
        });
        Edges.edge("0 of a tilted ball", () -> {
            PinballScorer x = Check.started(1);
            Check.tilt(x);
            x.nudge(3);
            Check.equal("tiltMeter", x.tiltMeter(), 0);
        });
        Edges.promise(24, WITHOUT_GAME);
        Edges.needsGame(PinballScorer::tiltMeter);
    }

    private static void warnings() {
        Edges.promise(25, "Returns the number of warnings of this ball.");
        Edges.edge("0 to 3, and not 4", () -> {
            PinballScorer x = Check.started(1);
            for (int i = 0; i < 5; i++) {
                Check.equal("warnings", x.warnings(), Math.min(i, 3));
                x.nudge(3);
                x.nudge(2);
            }
        });
        Edges.edge("the warnings of an earlier ball do not count", () -> {
            PinballScorer x = Check.started(1);
            Check.times(4, () -> x.nudge(3));
            Check.loseBall(x);
            Check.equal("warnings", x.warnings(), 0);
            Check.times(2, () -> x.nudge(3));
            Check.equal("warnings", x.warnings() + "/" + x.isTilted(), "1/false");
        });
        Edges.edge("hits take no warning back", () -> {
            PinballScorer x = Check.started(1);
            x.nudge(3);
            x.nudge(3);
            Check.clearLanes(x);
            Check.equal("warnings", x.warnings(), 1);
        });
        Edges.promise(25, WITHOUT_GAME);
        Edges.needsGame(PinballScorer::warnings);
    }

    private static void isTilted() {
        Edges.promise(26, "Returns whether the ball is tilted.");
        Edges.edge("two warnings and a full meter, then the third warning", () -> {
            PinballScorer x = Check.started(1);
            Check.times(4, () -> x.nudge(3));
            x.nudge(3);
            x.nudge(1);
            Check.equal("before", x.isTilted(), false);
            x.nudge(1);
            Check.equal("after", x.isTilted(), true);
        });
        Edges.promise(26, WITHOUT_GAME);
        Edges.needsGame(PinballScorer::isTilted);
        Edges.edge("after a tilted ball's game was quit", () -> {
            PinballScorer x = Check.started(1);
            Check.tilt(x);
            x.quitGame();
            Check.refuses("isTilted", x, IllegalStateException.class, x::isTilted);
        });
    }

    private static void hits() {
        Edges.promise(27, "Returns the number of hits with this ball.");
        Edges.edge("each kind counts, nudges and saved drains do not", () -> {
            PinballScorer x = Check.started(1);
            Check.equal("none", x.hits(), 0);
            x.hitLane(0);
            x.hitBumper(0);
            x.hitTarget(0);
            x.nudge(1);
            x.drain();
            Check.equal("three", x.hits(), 3);
            x.hitLane(0);
            x.hitTarget(0);
            Check.equal("a lit lane and a target that is down", x.hits(), 5);
        });
        Edges.edge("refused hits do not count", () -> {
            PinballScorer x = Check.started(1);
            Check.fails("hitLane", IndexOutOfBoundsException.class, () -> x.hitLane(4));
            Check.fails("hitBumper", IndexOutOfBoundsException.class, () -> x.hitBumper(3));
            Check.fails("hitTarget", IndexOutOfBoundsException.class, () -> x.hitTarget(5));
            Check.equal("hits", x.hits(), 0);
        });
        Edges.edge("hits while tilted count", () -> {
            PinballScorer x = Check.started(1);
            x.hitLane(0);
            Check.tilt(x);
            x.hitLane(0);
            x.hitBumper(0);
            x.hitTarget(0);
            Check.equal("hits", x.hits(), 4);
        });
        Edges.promise(27, WITHOUT_GAME);
        Edges.needsGame(PinballScorer::hits);
    }

    private static void wouldBeSaved() {
        Edges.promise(28, "Returns whether the ball would be saved if it drained now.");
        Edges.edge("no hit, three hits, four hits", () -> {
            PinballScorer x = Check.started(1);
            Check.equal("none", x.wouldBeSaved(), true);
            Check.times(3, () -> x.hitLane(0));
            Check.equal("three", x.wouldBeSaved(), true);
            x.hitLane(0);
            Check.equal("four", x.wouldBeSaved(), false);
        });
        Edges.edge("a ball without hits that has been saved", () -> {
            PinballScorer x = Check.started(1);
            x.drain();
            Check.equal("wouldBeSaved", x.wouldBeSaved(), false);
            x.undo();
            Check.equal("when the drain is undone", x.wouldBeSaved(), true);
        });
        Edges.edge("two warnings, then a tilted ball without hits", () -> {
            PinballScorer x = Check.started(1);
            Check.times(5, () -> x.nudge(3));
            Check.equal("two warnings", x.wouldBeSaved(), true);
            x.nudge(3);
            Check.equal("tilted", x.wouldBeSaved(), false);
        });
        Edges.promise(28, WITHOUT_GAME);
        Edges.needsGame(PinballScorer::wouldBeSaved);
    }
}
