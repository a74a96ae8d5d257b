import java.util.NoSuchElementException;

/** Promises 1 to 9: a new object, players, games and hits. */
public final class GamesTest {
    public static void main(String[] args) {
        newObject();
        addPlayer();
        startGame();
        startGameBeginsAnew();
        hitLane();
        multiplierHasALimit();
        hitBumper();
        hitTarget();
        secondBankGivesExtraBall();
        milestoneByHits();
        bankAndMilestoneInOneHit();
        savedBallIsNewAgain();
        nudge();
        hitsCalmTheTiltMeter();
        tiltedBall();
        drainSavesOnce();
        drainAwardsBonus();
        drainMilestone();
        drainUsesExtraBall();
        drainGoesRound();
        drainOfTiltedBall();
        gameOver();
        quitGame();
        Check.finish();
    }

    private static void newObject() {
        PinballScorer x = new PinballScorer();
        Check.equal("new: playerCount", x.playerCount(), 0);
        Check.equal("new: recordCount", x.recordCount(), 0);
        Check.equal("new: gameCount", x.gameCount(), 0);
        Check.equal("new: isRunning", x.isRunning(), false);
        Check.equal("new: pointsTotal", x.pointsTotal(), 0);
        Check.equal("new: drainedBalls", x.drainedBalls(), 0);
        Check.equal("new: tiltedBalls", x.tiltedBalls(), 0);
        Check.equal("new: output", Check.currentOutput(x), "");
        Check.equal("new: script buffer", x.type('p'), 1);
        Check.fails("new: undo", NoSuchElementException.class, x::undo);
        Check.fails("new: restore", IllegalStateException.class, x::restore);
        Check.equal("two objects are apart", Check.withPlayers(2).playerCount() + new PinballScorer().playerCount(), 2);
    }

    private static void addPlayer() {
        PinballScorer x = new PinballScorer();
        for (int i = 0; i < 4; i++) {
            Check.equal("addPlayer", x.addPlayer(), i);
            Check.equal("score of a new player", x.score(i), 0);
            Check.equal("extra balls of a new player", x.extraBalls(i), 0);
        }
        Check.refuses("a fifth player", x, IllegalStateException.class, x::addPlayer);
        PinballScorer y = Check.started(1);
        Check.refuses("a player in a game", y, IllegalStateException.class, y::addPlayer);
        y.hitLane(0);
        y.quitGame();
        Check.equal("a player after a game", y.addPlayer(), 1);
        Check.equal("the new player's score", y.score(1), 0);
        Check.equal("the old player's score", y.score(0), 100);
    }

    private static void startGame() {
        PinballScorer x = new PinballScorer();
        Check.refuses("startGame without players", x, NoSuchElementException.class, x::startGame);
        x.addPlayer();
        Check.equal("startGame", x.startGame(), 1);
        Check.equal("isRunning", x.isRunning(), true);
        Check.refuses("startGame in a game", x, IllegalStateException.class, x::startGame);
        x.quitGame();
        Check.equal("startGame again", x.startGame(), 2);
    }

    private static void startGameBeginsAnew() {
        PinballScorer x = Check.started(2);
        String fresh = Check.output(x, x::renderBall);
        Check.lose(x);
        Check.clearBank(x);
        Check.clearBank(x);
        Check.clearLanes(x);
        x.hitLane(2);
        x.hitBumper(1);
        x.hitTarget(3);
        Check.tilt(x);
        Check.equal("extra ball before the new game", x.extraBalls(1), 1);
        x.quitGame();
        x.startGame();
        Check.equal("score 0", x.score(0), 0);
        Check.equal("score 1", x.score(1), 0);
        Check.equal("extraBalls 1", x.extraBalls(1), 0);
        Check.equal("currentPlayer", x.currentPlayer(), 0);
        Check.equal("ballNumber", x.ballNumber(), 1);
        Check.equal("the new game's ball", Check.output(x, x::renderBall), fresh);
        Check.equal("bumperValue", x.bumperValue(1), 50);
        Check.equal("completedBanks", x.completedBanks(), 0);
        Check.equal("bonusUnits", x.bonusUnits(), 0);
        Check.equal("hits", x.hits(), 0);
        Check.equal("wouldBeSaved", x.wouldBeSaved(), true);
    }

    private static void hitLane() {
        PinballScorer x = Check.withPlayers(1);
        Check.refuses("hitLane without a game", x, IllegalStateException.class, () -> x.hitLane(3));
        Check.refuses("hitLane(-1) without a game", x, IndexOutOfBoundsException.class, () -> x.hitLane(-1));
        Check.refuses("hitLane(4) without a game", x, IndexOutOfBoundsException.class, () -> x.hitLane(4));
        x.startGame();
        Check.refuses("hitLane(-1)", x, IndexOutOfBoundsException.class, () -> x.hitLane(-1));
        Check.refuses("hitLane(4)", x, IndexOutOfBoundsException.class, () -> x.hitLane(4));
        Check.refuses("hitLane(max)", x, IndexOutOfBoundsException.class, () -> x.hitLane(Integer.MAX_VALUE));
        Check.refuses("hitLane(min)", x, IndexOutOfBoundsException.class, () -> x.hitLane(Integer.MIN_VALUE));
        Check.equal("an unlit lane", x.hitLane(3), 100);
        Check.equal("it is lit", x.isLit(3), true);
        Check.equal("a lit lane", x.hitLane(3), 10);
        Check.equal("it stays lit", x.isLit(3), true);
        x.hitLane(0);
        x.hitLane(1);
        Check.equal("no increase yet", x.multiplier(), 1);
        Check.equal("the last lane, before the increase", x.hitLane(2), 100);
        Check.equal("the increase", x.multiplier(), 2);
        for (int lane = 0; lane < 4; lane++) {
            Check.equal("all lanes unlit", x.isLit(lane), false);
        }
        Check.equal("an unlit lane, twice", x.hitLane(2), 200);
        Check.equal("a lit lane, twice", x.hitLane(2), 20);
        Check.equal("the score", x.score(0), 630);
        Check.equal("the hits", x.hits(), 7);
    }

    private static void multiplierHasALimit() {
        PinballScorer x = Check.started(1);
        for (int round = 1; round <= 8; round++) {
            Check.equal("multiplier in round " + round, x.multiplier(), Math.min(round, 6));
            Check.equal("a lane in round " + round, x.hitLane(0), 100 * Math.min(round, 6));
            x.hitLane(1);
            x.hitLane(2);
            x.hitLane(3);
        }
        Check.equal("multiplier at its limit", x.multiplier(), 6);
        Check.equal("lanes unlit at the limit", x.isLit(0), false);
    }

    private static void hitBumper() {
        PinballScorer x = Check.withPlayers(1);
        Check.refuses("hitBumper without a game", x, IllegalStateException.class, () -> x.hitBumper(2));
        Check.refuses("hitBumper(3) without a game", x, IndexOutOfBoundsException.class, () -> x.hitBumper(3));
        x.startGame();
        Check.refuses("hitBumper(-1)", x, IndexOutOfBoundsException.class, () -> x.hitBumper(-1));
        Check.refuses("hitBumper(3)", x, IndexOutOfBoundsException.class, () -> x.hitBumper(3));
        for (int i = 0; i < 18; i++) {
            Check.equal("bumper hit " + i, x.hitBumper(2), Math.min(50 + 10 * i, 200));
            Check.equal("value after hit " + i, x.bumperValue(2), Math.min(60 + 10 * i, 200));
        }
        Check.equal("another bumper", x.bumperValue(0), 50);
        Check.clearLanes(x);
        Check.equal("a bumper, twice", x.hitBumper(0), 100);
        Check.equal("the value without the multiplier", x.bumperValue(0), 60);
        Check.equal("the hits", x.hits(), 23);
    }

    private static void hitTarget() {
        PinballScorer x = Check.withPlayers(1);
        Check.refuses("hitTarget without a game", x, IllegalStateException.class, () -> x.hitTarget(4));
        Check.refuses("hitTarget(5) without a game", x, IndexOutOfBoundsException.class, () -> x.hitTarget(5));
        x.startGame();
        Check.refuses("hitTarget(-1)", x, IndexOutOfBoundsException.class, () -> x.hitTarget(-1));
        Check.refuses("hitTarget(5)", x, IndexOutOfBoundsException.class, () -> x.hitTarget(5));
        Check.equal("a target that is up", x.hitTarget(4), 200);
        Check.equal("a bonus unit", x.bonusUnits(), 1);
        Check.equal("it is down", x.isDown(4), true);
        Check.equal("a target that is down", x.hitTarget(4), 20);
        Check.equal("no bonus unit", x.bonusUnits(), 1);
        Check.equal("it stays down", x.isDown(4), true);
        x.hitTarget(0);
        x.hitTarget(1);
        x.hitTarget(2);
        Check.equal("no bank yet", x.completedBanks(), 0);
        Check.equal("the last target", x.hitTarget(3), 200);
        Check.equal("the bank", x.completedBanks(), 1);
        Check.equal("its bonus units", x.bonusUnits(), 8);
        for (int target = 0; target < 5; target++) {
            Check.equal("all targets up", x.isDown(target), false);
        }
        Check.equal("no extra ball for the first bank", x.extraBalls(0), 0);
        Check.clearLanes(x);
        Check.equal("a target, twice", x.hitTarget(0), 400);
        Check.equal("a target that is down, twice", x.hitTarget(0), 40);
        Check.equal("the hits", x.hits(), 12);
        Check.equal("the score", x.score(0), 1860);
    }

    private static void secondBankGivesExtraBall() {
        PinballScorer x = Check.started(2);
        Check.lose(x);
        Check.clearBank(x);
        Check.equal("first bank", x.extraBalls(1), 0);
        Check.clearBank(x);
        Check.equal("second bank", x.extraBalls(1), 1);
        Check.equal("the other player", x.extraBalls(0), 0);
        x.hitTarget(0);
        Check.equal("a target after the second bank", x.extraBalls(1), 1);
        Check.times(4, () -> x.hitTarget(4));
        x.hitTarget(1);
        x.hitTarget(2);
        x.hitTarget(3);
        Check.equal("third bank: banks", x.completedBanks(), 3);
        Check.equal("third bank: extra balls", x.extraBalls(1), 1);
        PinballScorer y = Check.started(1);
        Check.clearBank(y);
        y.drain();
        Check.clearBank(y);
        Check.equal("the first bank of the next ball", y.extraBalls(0), 0);
    }

    private static void milestoneByHits() {
        PinballScorer x = Check.started(1);
        scoreAlmost5000(x);
        Check.equal("below the milestone", x.score(0), 4990);
        Check.equal("no extra ball yet", x.extraBalls(0), 0);
        Check.equal("a hit to 5000", x.hitLane(0), 10);
        Check.equal("the milestone", x.extraBalls(0), 1);
        x.hitLane(0);
        Check.equal("only once", x.extraBalls(0), 1);
        x.quitGame();
        x.startGame();
        scoreAlmost5000(x);
        x.hitBumper(2);
        Check.equal("once more in the next game", x.extraBalls(0), 1);
        Check.equal("past the milestone", x.score(0), 5040);
    }

    private static void scoreAlmost5000(PinballScorer x) {
        Check.times(30, () -> x.hitBumper(0));
        Check.times(10, () -> x.hitLane(0));
    }

    private static void bankAndMilestoneInOneHit() {
        PinballScorer x = Check.started(1);
        Check.clearBank(x);
        Check.times(22, () -> x.hitBumper(0));
        for (int target = 0; target < 4; target++) {
            x.hitTarget(target);
        }
        Check.equal("before the hit", x.score(0) + "/" + x.extraBalls(0), "5000/1");
        PinballScorer y = Check.started(1);
        Check.clearBank(y);
        Check.times(21, () -> y.hitBumper(0));
        Check.times(5, () -> y.hitLane(0));
        for (int target = 0; target < 4; target++) {
            y.hitTarget(target);
        }
        Check.equal("before the hit for both", y.score(0) + "/" + y.extraBalls(0), "4940/0");
        y.hitTarget(4);
        Check.equal("after the hit for both", y.score(0) + "/" + y.extraBalls(0), "5140/2");
    }

    private static void savedBallIsNewAgain() {
        PinballScorer x = Check.started(1);
        Check.lose(x);
        Check.equal("the next ball can be saved", x.wouldBeSaved(), true);
        Check.clearBank(x);
        Check.clearBank(x);
        x.drain();
        Check.equal("the extra ball plays with the same number", x.ballNumber(), 2);
        Check.equal("and can be saved", x.wouldBeSaved(), true);
        x.drain();
        Check.equal("but once", x.wouldBeSaved(), false);
    }

    private static void nudge() {
        PinballScorer x = Check.withPlayers(1);
        Check.refuses("nudge without a game", x, IllegalStateException.class, () -> x.nudge(1));
        Check.refuses("nudge(0) without a game", x, IllegalArgumentException.class, () -> x.nudge(0));
        Check.refuses("nudge(4) without a game", x, IllegalArgumentException.class, () -> x.nudge(4));
        x.startGame();
        Check.refuses("nudge(0)", x, IllegalArgumentException.class, () -> x.nudge(0));
        Check.refuses("nudge(4)", x, IllegalArgumentException.class, () -> x.nudge(4));
        Check.refuses("nudge(-1)", x, IllegalArgumentException.class, () -> x.nudge(-1));
        Check.equal("a nudge", x.nudge(1), 0);
        Check.equal("meter 1", x.tiltMeter(), 1);
        Check.equal("a nudge", x.nudge(3), 0);
        Check.equal("meter 4", x.tiltMeter(), 4);
        Check.equal("a nudge to 5", x.nudge(1), 1);
        Check.equal("meter 0", x.tiltMeter(), 0);
        x.nudge(2);
        x.nudge(2);
        Check.equal("a nudge to 7", x.nudge(3), 2);
        Check.equal("meter 0 again", x.tiltMeter(), 0);
        Check.equal("two warnings do not tilt", x.isTilted(), false);
        x.nudge(3);
        Check.equal("the third warning", x.nudge(2), 3);
        Check.equal("tilts", x.isTilted(), true);
        Check.equal("the tilted balls", x.tiltedBalls(), 1);
        Check.equal("a nudge is no hit", x.hits(), 0);
    }

    private static void hitsCalmTheTiltMeter() {
        PinballScorer x = Check.started(1);
        x.hitLane(0);
        Check.equal("not below 0", x.tiltMeter(), 0);
        x.nudge(3);
        x.nudge(1);
        x.hitLane(0);
        Check.equal("a lane calms", x.tiltMeter(), 3);
        x.hitBumper(0);
        Check.equal("a bumper calms", x.tiltMeter(), 2);
        x.hitTarget(0);
        Check.equal("a target calms", x.tiltMeter(), 1);
        x.hitTarget(0);
        Check.equal("a target that is down calms", x.tiltMeter(), 0);
        x.hitTarget(0);
        Check.equal("still not below 0", x.tiltMeter(), 0);
    }

    private static void tiltedBall() {
        PinballScorer x = Check.started(1);
        x.hitLane(1);
        x.hitTarget(1);
        Check.tilt(x);
        String before = Check.state(x);
        Check.equal("nudging a tilted ball", x.nudge(3), 3);
        Check.equal("changes nothing", Check.state(x), before);
        Check.equal("a lane", x.hitLane(0), 0);
        Check.equal("a lit lane", x.hitLane(1), 0);
        Check.equal("a bumper", x.hitBumper(0), 0);
        Check.equal("a target", x.hitTarget(0), 0);
        Check.equal("a target that is down", x.hitTarget(1), 0);
        Check.equal("only the hits change", Check.state(x), before.replace("hits=2 ", "hits=7 "));
    }

    private static void drainSavesOnce() {
        PinballScorer x = Check.withPlayers(2);
        Check.refuses("drain without a game", x, IllegalStateException.class, x::drain);
        x.startGame();
        x.hitTarget(0);
        x.hitTarget(1);
        x.hitTarget(2);
        x.nudge(3);
        String before = Check.state(x);
        Check.equal("three hits: saved", x.drain(), 0);
        Check.equal("nothing else changes", Check.state(x), before.replace("saved=true", "saved=false"));
        Check.equal("not saved again", x.drain(), 300);
        Check.equal("the next player", x.currentPlayer(), 1);
        Check.times(4, () -> x.hitTarget(0));
        Check.equal("four hits: not saved", x.drain(), 100);
        Check.equal("the first player again", x.currentPlayer(), 0);
        Check.equal("the drained balls", x.drainedBalls(), 2);
    }

    private static void drainAwardsBonus() {
        PinballScorer x = Check.started(1);
        Check.clearLanes(x);
        Check.clearLanes(x);
        x.hitTarget(0);
        x.hitTarget(1);
        Check.equal("the bonus, three times", x.drain(), 600);
        Check.equal("the score", x.score(0), 3000);
        Check.equal("the points of units", x.pointsOf('u'), 600);
        Check.equal("the total", x.pointsTotal(), 3000);
        Check.equal("the next ball", x.ballNumber(), 2);
        Check.equal("its multiplier", x.multiplier(), 1);
        Check.equal("its units", x.bonusUnits(), 0);
        Check.times(4, () -> x.hitLane(0));
        Check.equal("no units, no bonus", x.drain(), 0);
    }

    private static void drainMilestone() {
        PinballScorer x = Check.started(2);
        x.hitTarget(0);
        Check.times(28, () -> x.hitBumper(0));
        Check.times(5, () -> x.hitLane(0));
        Check.times(8, () -> x.hitTarget(0));
        Check.equal("before the milestone", x.score(0), 4900);
        Check.equal("the bonus to 5000", x.drain(), 100);
        Check.equal("the milestone's ball is used up", x.extraBalls(0), 0);
        Check.equal("the same player", x.currentPlayer(), 0);
        Check.equal("the same ball number", x.ballNumber(), 1);
        Check.clearBank(x);
        Check.equal("no second milestone", x.drain(), 800);
        Check.equal("the next player", x.currentPlayer(), 1);
    }

    private static void drainUsesExtraBall() {
        PinballScorer x = Check.started(2);
        Check.clearBank(x);
        Check.clearBank(x);
        Check.times(22, () -> x.hitBumper(0));
        Check.equal("two extra balls", x.extraBalls(0), 2);
        x.drain();
        Check.equal("one is used up", x.extraBalls(0), 1);
        Check.equal("a new ball", x.hits() + "/" + x.bonusUnits() + "/" + x.bumperValue(0), "0/0/50");
        Check.equal("of the same player", x.currentPlayer(), 0);
        Check.tilt(x);
        Check.equal("a tilted ball", x.drain(), 0);
        Check.equal("uses one up too", x.extraBalls(0), 0);
        Check.equal("the new ball is not tilted", x.isTilted(), false);
        Check.equal("and has no warnings", x.warnings(), 0);
        Check.equal("the same player still", x.currentPlayer(), 0);
        Check.lose(x);
        Check.equal("the next player", x.currentPlayer(), 1);
        Check.equal("with the same ball number", x.ballNumber(), 1);
    }

    private static void drainGoesRound() {
        PinballScorer x = Check.started(3);
        for (int ball = 1; ball <= 3; ball++) {
            for (int player = 0; player < 3; player++) {
                Check.equal("player in turn", x.currentPlayer(), player);
                Check.equal("ball in turn", x.ballNumber(), ball);
                Check.equal("running in turn", x.isRunning(), true);
                Check.lose(x);
            }
        }
        Check.equal("over", x.isRunning(), false);
        Check.refuses("drain after the game", x, IllegalStateException.class, x::drain);
    }

    private static void drainOfTiltedBall() {
        PinballScorer x = Check.started(2);
        x.hitTarget(0);
        Check.tilt(x);
        Check.equal("a tilted ball is not saved and awards nothing", x.drain(), 0);
        Check.equal("the score stays", x.score(0), 200);
        Check.equal("it counts as drained", x.drainedBalls(), 1);
        Check.equal("the next player", x.currentPlayer(), 1);
        Check.equal("the next ball is not tilted", x.isTilted(), false);
    }

    private static void gameOver() {
        PinballScorer x = Check.started(2);
        for (int i = 0; i < 6; i++) {
            Check.equal("no records yet", x.recordCount(), 0);
            Check.times(4 + i % 2, () -> x.hitLane(0));
            x.drain();
        }
        Check.equal("not running", x.isRunning(), false);
        Check.equal("both scores are entered", x.recordCount(), 2);
        Check.equal("the best", x.recordScore(0), 420);
        Check.equal("the second", x.recordScore(1), 390);
        Check.equal("the score stays", x.score(1), 420);
        PinballScorer y = Check.started(1);
        Check.lose(y);
        Check.lose(y);
        Check.clearBank(y);
        Check.clearBank(y);
        y.drain();
        Check.equal("an extra ball after ball 3", y.isRunning(), true);
        Check.equal("is ball 3 too", y.ballNumber(), 3);
        Check.lose(y);
        Check.equal("then the game is over", y.isRunning(), false);
    }

    private static void quitGame() {
        PinballScorer x = Check.withPlayers(2);
        Check.refuses("quitGame without a game", x, IllegalStateException.class, x::quitGame);
        x.startGame();
        x.hitLane(0);
        Check.lose(x);
        Check.clearBank(x);
        Check.clearBank(x);
        Check.equal("quitGame", x.quitGame(), 1);
        Check.equal("not running", x.isRunning(), false);
        Check.equal("the scores stay", x.score(0) + "/" + x.score(1), "100/2000");
        Check.equal("the extra balls stay", x.extraBalls(1), 1);
        Check.equal("no records", x.recordCount(), 0);
        Check.equal("the total stays", x.pointsTotal(), 2100);
        Check.equal("no ball has drained by it", x.drainedBalls(), 1);
        Check.refuses("quitGame again", x, IllegalStateException.class, x::quitGame);
    }
}
