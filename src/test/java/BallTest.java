/** Promises 18 to 28: what the ball tells. The hits themselves are in GamesTest. */
public final class BallTest {
    public static void main(String[] args) {
        withoutGame(Check.withPlayers(1));
        PinballScorer quit = Check.started(1);
        quit.quitGame();
        withoutGame(quit);
        wrongIndices(Check.withPlayers(1));
        wrongIndices(Check.started(1));
        newBall();
        playedBall();
        nextBallHasNothingOfIt();
        hitsWhileTilted();
        wouldBeSaved();
        Check.finish();
    }

    private static void withoutGame(PinballScorer x) {
        Class<IllegalStateException> due = IllegalStateException.class;
        Check.refuses("multiplier", x, due, x::multiplier);
        Check.refuses("isLit", x, due, () -> x.isLit(3));
        Check.refuses("bumperValue", x, due, () -> x.bumperValue(2));
        Check.refuses("isDown", x, due, () -> x.isDown(4));
        Check.refuses("completedBanks", x, due, x::completedBanks);
        Check.refuses("bonusUnits", x, due, x::bonusUnits);
        Check.refuses("tiltMeter", x, due, x::tiltMeter);
        Check.refuses("warnings", x, due, x::warnings);
        Check.refuses("isTilted", x, due, x::isTilted);
        Check.refuses("hits", x, due, x::hits);
        Check.refuses("wouldBeSaved", x, due, x::wouldBeSaved);
    }

    private static void wrongIndices(PinballScorer x) {
        Class<IndexOutOfBoundsException> due = IndexOutOfBoundsException.class;
        for (int wrong : new int[] {-1, 5, Integer.MAX_VALUE, Integer.MIN_VALUE}) {
            Check.refuses("isLit " + wrong, x, due, () -> x.isLit(wrong));
            Check.refuses("bumperValue " + wrong, x, due, () -> x.bumperValue(wrong));
            Check.refuses("isDown " + wrong, x, due, () -> x.isDown(wrong));
        }
        Check.refuses("isLit 4", x, due, () -> x.isLit(4));
        Check.refuses("bumperValue 3", x, due, () -> x.bumperValue(3));
    }

    private static void newBall() {
        PinballScorer x = Check.started(1);
        Check.equal("multiplier", x.multiplier(), 1);
        for (int i = 0; i < 4; i++) {
            Check.equal("isLit", x.isLit(i), false);
        }
        for (int i = 0; i < 3; i++) {
            Check.equal("bumperValue", x.bumperValue(i), 50);
        }
        for (int i = 0; i < 5; i++) {
            Check.equal("isDown", x.isDown(i), false);
        }
        Check.equal("completedBanks", x.completedBanks(), 0);
        Check.equal("bonusUnits", x.bonusUnits(), 0);
        Check.equal("tiltMeter", x.tiltMeter(), 0);
        Check.equal("warnings", x.warnings(), 0);
        Check.equal("isTilted", x.isTilted(), false);
        Check.equal("hits", x.hits(), 0);
        Check.equal("wouldBeSaved", x.wouldBeSaved(), true);
    }

    private static void playedBall() {
        PinballScorer x = Check.started(1);
        Check.clearLanes(x);
        x.hitLane(1);
        x.hitBumper(2);
        Check.clearBank(x);
        x.hitTarget(3);
        x.nudge(3);
        x.nudge(3);
        x.nudge(2);
        Check.equal("multiplier", x.multiplier(), 2);
        Check.equal("isLit", x.isLit(0) + "/" + x.isLit(1), "false/true");
        Check.equal("bumperValue", x.bumperValue(1) + "/" + x.bumperValue(2), "50/60");
        Check.equal("isDown", x.isDown(2) + "/" + x.isDown(3), "false/true");
        Check.equal("completedBanks", x.completedBanks(), 1);
        Check.equal("bonusUnits", x.bonusUnits(), 9);
        Check.equal("tiltMeter", x.tiltMeter(), 2);
        Check.equal("warnings", x.warnings(), 1);
        Check.equal("isTilted", x.isTilted(), false);
        Check.equal("hits", x.hits(), 12);
    }

    private static void nextBallHasNothingOfIt() {
        PinballScorer x = Check.started(1);
        String fresh = Check.state(x).replaceAll("ball=1 |drained=0 |rate=\\S+( \\S+)? ", "");
        x.drain();
        x.nudge(3);
        x.nudge(3);
        x.nudge(3);
        Check.equal("the meter before", x.tiltMeter() + "/" + x.warnings(), "3/1");
        x.drain();
        Check.equal("the meter of the next ball", x.tiltMeter() + "/" + x.warnings(), "0/0");
        Check.equal("all of the next ball", Check.state(x).replaceAll("ball=2 |drained=1 |rate=\\S+( \\S+)? ", ""), fresh);
        x.nudge(2);
        x.quitGame();
        x.startGame();
        Check.equal("the meter in the next game", x.tiltMeter(), 0);
    }

    private static void hitsWhileTilted() {
        PinballScorer x = Check.started(1);
        Check.tilt(x);
        Check.equal("isTilted", x.isTilted(), true);
        Check.equal("warnings", x.warnings(), 3);
        x.hitLane(0);
        x.hitBumper(0);
        x.hitTarget(0);
        Check.equal("hits", x.hits(), 3);
        Check.equal("isLit", x.isLit(0), false);
        Check.equal("isDown", x.isDown(0), false);
        Check.equal("bumperValue", x.bumperValue(0), 50);
    }

    private static void wouldBeSaved() {
        PinballScorer x = Check.started(1);
        Check.times(3, () -> x.hitBumper(0));
        Check.equal("after three hits", x.wouldBeSaved(), true);
        x.hitBumper(0);
        Check.equal("after four hits", x.wouldBeSaved(), false);
        x.undo();
        x.drain();
        Check.equal("after it has been saved", x.wouldBeSaved(), false);
        x.drain();
        Check.equal("the next ball", x.wouldBeSaved(), true);
        Check.tilt(x);
        Check.equal("when tilted", x.wouldBeSaved(), false);
    }
}
