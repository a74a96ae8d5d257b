/** Edges of hits: promises 4 to 6, and the terms about lanes, bumpers, targets and the milestone. */
final class HitEdges {
    private static final String WITHOUT_GAME = "Throws `IllegalStateException` if no game is running";

    private HitEdges() {
    }

    static void run() {
        fourLanes();
        lanePoints();
        allLanes();
        threeBumpers();
        bumperPoints();
        fiveTargets();
        targetPoints();
        banks();
        downTargets();
        milestone();
        milestoneOnce();
        mostExtraBalls();
    }

    private static void fourLanes() {
        Edges.terms("There are the lanes 0 to 3.");
        Edges.hasIndices(4, PinballScorer::hitLane);
        Edges.promise(4, "Throws `IndexOutOfBoundsException` if there is no such lane");
        Edges.hasIndices(4, PinballScorer::hitLane);
        Edges.edge("with a tilted ball", () -> {
            PinballScorer x = Check.started(1);
            Check.tilt(x);
            Check.refuses("hitLane", x, IndexOutOfBoundsException.class, () -> x.hitLane(4));
        });
        Edges.promise(4, WITHOUT_GAME);
        Edges.needsGame(x -> x.hitLane(0));
        Edges.needsGame(x -> x.hitLane(3));
    }

    private static void lanePoints() {
        Edges.terms("A hit on a lane that is not lit scores 100 points and lights it; a hit on a lit lane scores 10 points.");
        for (int i = 0; i < 4; i++) {
            int lane = i;
            Edges.edge("lane " + lane + " not lit, then lit", () -> {
                PinballScorer x = Check.started(1);
                Check.equal("not lit", x.hitLane(lane), 100);
                Check.equal("isLit", x.isLit(lane), true);
                Check.equal("lit", x.hitLane(lane), 10);
                Check.equal("still isLit", x.isLit(lane), true);
                Check.equal("lit again", x.hitLane(lane), 10);
                Check.equal("score", x.score(0), 120);
            });
        }
        Edges.edge("another lane is lit", () -> {
            PinballScorer x = Check.started(1);
            x.hitLane(0);
            Check.equal("hitLane", x.hitLane(3), 100);
        });
        Edges.promise(4, "Returns the points that are scored.");
        Edges.edge("the score grows by the answer", () -> {
            PinballScorer x = Check.started(2);
            Check.loseBall(x);
            int sum = x.hitLane(1) + x.hitLane(1) + x.hitLane(0) + x.hitLane(2) + x.hitLane(3) + x.hitLane(3);
            Check.equal("the current player's score", x.score(1), sum);
            Check.equal("the other player's score", x.score(0), 0);
        });
    }

    private static void allLanes() {
        Edges.terms("If all lanes are lit after a hit, they all become unlit, and the multiplier increases by 1, but not "
                + "above 6.");
        for (int i = 0; i < 4; i++) {
            int last = i;
            Edges.edge("three lanes lit, and lane " + last + " the last one", () -> lastLane(last));
        }
        Edges.edge("a lit lane again, with three lit", () -> {
            PinballScorer x = Check.started(1);
            x.hitLane(0);
            x.hitLane(1);
            x.hitLane(2);
            x.hitLane(2);
            Check.equal("multiplier", x.multiplier(), 1);
            Check.equal("isLit", x.isLit(0) + "/" + x.isLit(2) + "/" + x.isLit(3), "true/true/false");
        });
        Edges.edge("from 5 to 6", () -> {
            PinballScorer x = lanesCleared(4);
            Check.equal("before", x.multiplier(), 5);
            Check.clearLanes(x);
            Check.equal("after", x.multiplier(), 6);
        });
        Edges.edge("6 stays 6, and the lanes become unlit", () -> {
            PinballScorer x = lanesCleared(6);
            Check.equal("multiplier", x.multiplier(), 6);
            for (int lane = 0; lane < 4; lane++) {
                Check.equal("isLit", x.isLit(lane), false);
            }
            Check.equal("hitLane", x.hitLane(0), 600);
        });
        Edges.terms("The points of this hit are multiplied by the multiplier before the increase.");
        for (int i = 1; i <= 7; i++) {
            int round = i;
            Edges.edge("the last hit of round " + round, () -> {
                PinballScorer x = lanesCleared(round - 1);
                x.hitLane(3);
                x.hitLane(2);
                x.hitLane(1);
                Check.equal("hitLane", x.hitLane(0), 100 * Math.min(round, 6));
                Check.equal("multiplier", x.multiplier(), Math.min(round + 1, 6));
            });
        }
    }

    private static void lastLane(int last) {
        PinballScorer x = Check.started(1);
        for (int lane = 0; lane < 4; lane++) {
            if (lane != last) {
                x.hitLane(lane);
            }
        }
        Check.equal("multiplier before", x.multiplier(), 1);
        for (int lane = 0; lane < 4; lane++) {
            Check.equal("isLit before", x.isLit(lane), lane != last);
        }
        x.hitLane(last);
        Check.equal("multiplier after", x.multiplier(), 2);
        for (int lane = 0; lane < 4; lane++) {
            Check.equal("isLit after", x.isLit(lane), false);
        }
    }

    private static PinballScorer lanesCleared(int times) {
        PinballScorer x = Check.started(1);
        for (int i = 0; i < times; i++) {
            Check.clearLanes(x);
        }
        return x;
    }

    private static void threeBumpers() {
        Edges.terms("There are the bumpers 0 to 2.");
        Edges.hasIndices(3, PinballScorer::hitBumper);
        Edges.promise(5, "Throws `IndexOutOfBoundsException` if there is no such bumper");
        Edges.hasIndices(3, PinballScorer::hitBumper);
        Edges.edge("with a tilted ball", () -> {
            PinballScorer x = Check.started(1);
            Check.tilt(x);
            Check.refuses("hitBumper", x, IndexOutOfBoundsException.class, () -> x.hitBumper(3));
        });
        Edges.promise(5, WITHOUT_GAME);
        Edges.needsGame(x -> x.hitBumper(0));
        Edges.needsGame(x -> x.hitBumper(2));
    }

    private static void bumperPoints() {
        Edges.terms("A hit on a bumper scores its value; then its value increases by 10, but not above 200.");
        Edges.edge("the first hit", () -> {
            PinballScorer x = Check.started(1);
            Check.equal("hitBumper", x.hitBumper(0), 50);
            Check.equal("bumperValue", x.bumperValue(0), 60);
        });
        Edges.edge("from 190 to 200", () -> {
            PinballScorer x = bumped(14);
            Check.equal("bumperValue before", x.bumperValue(1), 190);
            Check.equal("hitBumper", x.hitBumper(1), 190);
            Check.equal("bumperValue after", x.bumperValue(1), 200);
        });
        Edges.edge("200 stays 200", () -> {
            PinballScorer x = bumped(15);
            Check.equal("hitBumper", x.hitBumper(1), 200);
            Check.equal("bumperValue", x.bumperValue(1), 200);
            Check.equal("hitBumper again", x.hitBumper(1), 200);
        });
        Edges.edge("the other bumpers stay", () -> {
            PinballScorer x = bumped(16);
            Check.equal("hitBumper 0", x.hitBumper(0), 50);
            Check.equal("hitBumper 2", x.hitBumper(2), 50);
        });
        Edges.edge("the value grows by 10 with a multiplier too", () -> {
            PinballScorer x = lanesCleared(5);
            x.hitBumper(0);
            Check.equal("bumperValue", x.bumperValue(0), 60);
        });
        Edges.promise(5, "Returns the points that are scored.");
        Edges.edge("the score grows by the answer", () -> {
            PinballScorer x = bumped(14);
            int before = x.score(0);
            Check.equal("the score", x.hitBumper(1) + x.hitBumper(1) + before, x.score(0));
        });
    }

    private static PinballScorer bumped(int times) {
        PinballScorer x = Check.started(1);
        Check.times(times, () -> x.hitBumper(1));
        return x;
    }

    private static void fiveTargets() {
        Edges.terms("There are the targets 0 to 4.");
        Edges.hasIndices(5, PinballScorer::hitTarget);
        Edges.promise(6, "Throws `IndexOutOfBoundsException` if there is no such target");
        Edges.hasIndices(5, PinballScorer::hitTarget);
        Edges.edge("with a tilted ball", () -> {
            PinballScorer x = Check.started(1);
            Check.tilt(x);
            Check.refuses("hitTarget", x, IndexOutOfBoundsException.class, () -> x.hitTarget(5));
        });
        Edges.promise(6, WITHOUT_GAME);
        Edges.needsGame(x -> x.hitTarget(0));
        Edges.needsGame(x -> x.hitTarget(4));
    }

    private static void targetPoints() {
        Edges.terms("A hit on a target that is up scores 200 points, adds 1 bonus unit, and lets the target drop.");
        for (int i = 0; i < 5; i++) {
            int target = i;
            Edges.edge("target " + target, () -> {
                PinballScorer x = Check.started(1);
                Check.equal("hitTarget", x.hitTarget(target), 200);
                Check.equal("bonusUnits", x.bonusUnits(), 1);
                Check.equal("isDown", x.isDown(target), true);
            });
        }
        Edges.promise(6, "Returns the points that are scored.");
        Edges.edge("the score grows by the answer, bonus units apart", () -> {
            PinballScorer x = Check.started(1);
            int sum = 0;
            for (int i = 0; i < 12; i++) {
                sum += x.hitTarget(i % 5);
            }
            Check.equal("the sum", sum, 2400);
            Check.equal("score", x.score(0), 2400);
        });
    }

    private static void banks() {
        Edges.terms("If all targets are down after a hit, they all come up, 3 more bonus units are added, and the number "
                + "of completed banks increases by 1;");
        for (int i = 0; i < 5; i++) {
            int last = i;
            Edges.edge("four targets down, and target " + last + " the last one", () -> lastTarget(last));
        }
        Edges.edge("a target that is down again, with four down", () -> {
            PinballScorer x = Check.started(1);
            for (int target = 0; target < 4; target++) {
                x.hitTarget(target);
            }
            x.hitTarget(0);
            Check.equal("completedBanks", x.completedBanks(), 0);
            Check.equal("bonusUnits", x.bonusUnits(), 4);
            Check.equal("isDown", x.isDown(0) + "/" + x.isDown(4), "true/false");
        });
        Edges.terms("with the second completed bank of a ball, and only with this one, the current player gets an extra "
                + "ball.");
        for (int i = 1; i <= 4; i++) {
            int count = i;
            Edges.edge("bank " + count, () -> {
                PinballScorer x = Check.started(2);
                for (int bank = 1; bank < count; bank++) {
                    Check.clearBank(x);
                }
                Check.equal("before", x.extraBalls(0), count > 2 ? 1 : 0);
                Check.clearBank(x);
                Check.equal("after", x.extraBalls(0), count > 1 ? 1 : 0);
                Check.equal("the other player", x.extraBalls(1), 0);
            });
        }
        Edges.edge("the targets before and after the second bank's last one", () -> {
            PinballScorer x = Check.started(1);
            Check.clearBank(x);
            for (int target = 0; target < 4; target++) {
                x.hitTarget(target);
            }
            Check.equal("before", x.extraBalls(0), 0);
            x.hitTarget(4);
            Check.equal("the last one", x.extraBalls(0), 1);
            x.hitTarget(4);
            x.hitTarget(4);
            Check.equal("after", x.extraBalls(0), 1);
        });
        Edges.edge("one bank with each of two balls", () -> {
            PinballScorer x = Check.started(1);
            Check.clearBank(x);
            x.drain();
            Check.clearBank(x);
            Check.equal("extraBalls", x.extraBalls(0), 0);
        });
        Edges.edge("the second bank of the next ball too", () -> {
            PinballScorer x = Check.started(1);
            Check.clearBank(x);
            Check.clearBank(x);
            x.quitGame();
            x.startGame();
            Check.clearBank(x);
            Check.equal("one bank", x.extraBalls(0), 0);
            Check.clearBank(x);
            Check.equal("two banks", x.extraBalls(0), 1);
        });
        Edges.edge("the second bank of an extra ball too", () -> {
            PinballScorer x = Check.started(1);
            for (int i = 0; i < 3; i++) {
                Check.clearBank(x);
                Check.clearBank(x);
                Check.equal("ballNumber", x.ballNumber(), 1);
                Check.equal("the milestone and the bank", x.extraBalls(0), i == 0 ? 1 : 2);
                x.drain();
            }
        });
        Edges.edge("the last player's bank", () -> {
            PinballScorer x = Check.started(4);
            Check.loseBalls(x, 3);
            Check.clearBank(x);
            Check.clearBank(x);
            Check.equal("extraBalls", x.extraBalls(0) + "/" + x.extraBalls(2) + "/" + x.extraBalls(3), "0/0/1");
        });
    }

    private static void lastTarget(int last) {
        PinballScorer x = Check.started(1);
        for (int target = 0; target < 5; target++) {
            if (target != last) {
                x.hitTarget(target);
            }
        }
        Check.equal("before", x.completedBanks() + "/" + x.bonusUnits(), "0/4");
        for (int target = 0; target < 5; target++) {
            Check.equal("isDown before", x.isDown(target), target != last);
        }
        Check.equal("hitTarget", x.hitTarget(last), 200);
        Check.equal("after", x.completedBanks() + "/" + x.bonusUnits(), "1/8");
        for (int target = 0; target < 5; target++) {
            Check.equal("isDown after", x.isDown(target), false);
        }
    }

    private static void downTargets() {
        Edges.terms("A hit on a target that is down scores 20 points and changes nothing else.");
        Edges.edge("the second hit and the third", () -> {
            PinballScorer x = Check.started(1);
            x.hitTarget(2);
            String before = Check.ball(x);
            Check.equal("hitTarget", x.hitTarget(2), 20);
            Check.equal("hitTarget again", x.hitTarget(2), 20);
            Check.equal("the ball but for its hits", Check.ball(x), before.replace("hits=1 ", "hits=3 "));
            Check.equal("score", x.score(0), 240);
        });
        Edges.edge("a target that has come up again", () -> {
            PinballScorer x = Check.started(1);
            Check.clearBank(x);
            Check.equal("hitTarget", x.hitTarget(4), 200);
            Check.equal("hitTarget again", x.hitTarget(4), 20);
        });
    }

    private static void milestone() {
        Edges.terms("When the score of a player reaches 5000 points or more for the first time in a game, by hits or by "
                + "bonus units, the player gets an extra ball.");
        Edges.edge("4990, the last score below", () -> extraBallsAt(scored(4990), 0));
        Edges.edge("5000, exactly, by a lane", () -> {
            PinballScorer x = scored(4990);
            Check.equal("hitLane", x.hitLane(0), 10);
            extraBallsAt(x, 1);
        });
        Edges.edge("5000, exactly, by a bumper", () -> {
            PinballScorer x = scored(4950);
            Check.equal("hitBumper", x.hitBumper(2), 50);
            extraBallsAt(x, 1);
        });
        Edges.edge("5000, exactly, by a target", () -> {
            PinballScorer x = scored(4800);
            Check.equal("hitTarget", x.hitTarget(2), 200);
            extraBallsAt(x, 1);
        });
        Edges.edge("far above at once", () -> {
            PinballScorer x = scored(4990);
            Check.equal("hitTarget", x.hitTarget(2), 200);
            extraBallsAt(x, 1);
        });
        Edges.edge("4980 and a target that is down, to 5000", () -> {
            PinballScorer x = scored(4770);
            x.hitTarget(0);
            x.hitLane(0);
            Check.equal("the score", x.score(0), 4980);
            extraBallsAt(x, 0);
            x.hitTarget(0);
            extraBallsAt(x, 1);
        });
        Edges.edge("by bonus units, to 4990", () -> bonusTo(4990, 1));
        Edges.edge("by bonus units, to 5000", () -> bonusTo(5000, 0));
        Edges.edge("by bonus units, to 5010", () -> bonusTo(5010, 0));
        Edges.edge("the score of two balls together", () -> {
            PinballScorer x = scored(4900);
            Check.loseBall(x);
            extraBallsAt(x, 0);
            x.hitLane(0);
            extraBallsAt(x, 1);
        });
        Edges.edge("the scores of two players apart", () -> {
            PinballScorer x = Check.started(2);
            Edges.scoreUpTo(x, 4900);
            Check.loseBall(x);
            Edges.scoreUpTo(x, 4990);
            Check.equal("none", x.extraBalls(0) + "/" + x.extraBalls(1), "0/0");
            x.hitLane(0);
            Check.equal("the second player's", x.extraBalls(0) + "/" + x.extraBalls(1), "0/1");
        });
    }

    private static PinballScorer scored(int points) {
        PinballScorer x = Check.started(1);
        Edges.scoreUpTo(x, points);
        return x;
    }

    private static void extraBallsAt(PinballScorer x, int due) {
        Check.equal("extraBalls with " + x.score(0) + " points", x.extraBalls(0), due);
    }

    /** With the milestone's extra ball, the player keeps playing, so that the next one has no turn yet. */
    private static void bonusTo(int points, int duePlayer) {
        PinballScorer x = Check.started(2);
        Edges.scoreUpTo(x, points - 300);
        x.hitTarget(0);
        Check.equal("drain", x.drain(), 100);
        Check.equal("score", x.score(0), points);
        Check.equal("currentPlayer", x.currentPlayer(), duePlayer);
        Check.equal("extraBalls", x.extraBalls(0), 0);
    }

    private static void milestoneOnce() {
        Edges.edge("a second hit above 5000", () -> {
            PinballScorer x = scored(5000);
            x.hitTarget(0);
            extraBallsAt(x, 1);
        });
        Edges.edge("10000 is no other milestone", () -> {
            PinballScorer x = scored(10000);
            extraBallsAt(x, 1);
            x.hitBumper(0);
            extraBallsAt(x, 1);
        });
        Edges.edge("not again with a later ball", () -> {
            PinballScorer x = scored(5000);
            x.drain();
            extraBallsAt(x, 0);
            x.hitLane(0);
            x.hitTarget(0);
            extraBallsAt(x, 0);
        });
        Edges.edge("by bonus units, and not again by hits", () -> {
            PinballScorer x = scored(4700);
            x.hitTarget(0);
            x.drain();
            Check.equal("score", x.score(0), 5000);
            x.hitTarget(0);
            extraBallsAt(x, 0);
        });
        Edges.edge("again in the next game", () -> {
            PinballScorer x = scored(5000);
            x.quitGame();
            x.startGame();
            Edges.scoreUpTo(x, 4990);
            extraBallsAt(x, 0);
            x.hitLane(0);
            extraBallsAt(x, 1);
        });
        Edges.edge("again when it was undone", () -> {
            PinballScorer x = scored(5000);
            x.undo();
            extraBallsAt(x, 0);
            x.hitLane(0);
            extraBallsAt(x, 1);
        });
    }

    /** A third one can't be reached: there is one milestone a game, one second bank a ball, and a drain uses one up. */
    private static void mostExtraBalls() {
        Edges.terms("A player can have at most 3 extra balls; more are lost.");
        Edges.edge("a bank and the milestone in one hit", () -> {
            PinballScorer x = scored(3150);
            Check.clearBank(x);
            for (int target = 0; target < 4; target++) {
                x.hitTarget(target);
            }
            Check.equal("before", x.score(0) + "/" + x.extraBalls(0), "4950/0");
            x.hitTarget(4);
            Check.equal("after", x.score(0) + "/" + x.extraBalls(0), "5150/2");
        });
        Edges.edge("two, one used up, and a second bank again", () -> {
            PinballScorer x = Check.started(1);
            GameEdges.twoExtraBalls(x);
            extraBallsAt(x, 2);
            x.drain();
            extraBallsAt(x, 1);
            Check.clearBank(x);
            Check.clearBank(x);
            extraBallsAt(x, 2);
        });
    }
}
