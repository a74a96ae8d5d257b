import java.util.NoSuchElementException;

/** Promises 29 to 34: predictions. */
public final class PredictionsTest {
    public static void main(String[] args) {
        laneRun();
        bumperRunArguments();
        bumperRun();
        tilted();
        bonusIfDrained();
        nextPlayer();
        nextPlayerWithExtraBall();
        predictionsChangeNothing();
        Check.finish();
    }

    private static void laneRun() {
        PinballScorer x = Check.withPlayers(1);
        Check.refuses("laneRun without a game", x, IllegalStateException.class, x::laneRun);
        Check.refuses("laneRunByCounting without a game", x, IllegalStateException.class, x::laneRunByCounting);
        x.startGame();
        lanes(x, 400);
        x.hitLane(2);
        lanes(x, 300);
        x.hitLane(2);
        lanes(x, 300);
        x.hitLane(0);
        x.hitLane(3);
        lanes(x, 100);
        x.hitLane(1);
        lanes(x, 800);
        x.hitLane(1);
        lanes(x, 600);
    }

    private static void lanes(PinballScorer x, int due) {
        Check.equal("laneRun", x.laneRun(), due);
        Check.equal("laneRunByCounting", x.laneRunByCounting(), due);
    }

    private static void bumperRunArguments() {
        for (PinballScorer x : new PinballScorer[] {Check.withPlayers(1), Check.started(1)}) {
            for (int wrong : new int[] {-1, 3, Integer.MAX_VALUE, Integer.MIN_VALUE}) {
                bumpersRefuse(x, wrong, 0, IndexOutOfBoundsException.class);
                bumpersRefuse(x, wrong, 51, IndexOutOfBoundsException.class);
            }
            for (int wrong : new int[] {-1, 51, Integer.MAX_VALUE, Integer.MIN_VALUE}) {
                bumpersRefuse(x, 0, wrong, IllegalArgumentException.class);
            }
        }
        bumpersRefuse(Check.withPlayers(1), 0, 0, IllegalStateException.class);
        bumpersRefuse(Check.withPlayers(1), 2, 50, IllegalStateException.class);
    }

    private static void bumpersRefuse(PinballScorer x, int bumper, int hits, Class<? extends RuntimeException> due) {
        String arguments = "(" + bumper + ", " + hits + ")";
        Check.refuses("bumperRun" + arguments, x, due, () -> x.bumperRun(bumper, hits));
        Check.refuses("bumperRunBySeries" + arguments, x, due, () -> x.bumperRunBySeries(bumper, hits));
    }

    private static void bumperRun() {
        PinballScorer x = Check.started(1);
        bumpers(x, 0, 0, 0);
        bumpers(x, 0, 1, 50);
        bumpers(x, 0, 2, 110);
        bumpers(x, 0, 15, 1800);
        bumpers(x, 0, 16, 2000);
        bumpers(x, 0, 17, 2200);
        bumpers(x, 0, 50, 8800);
        Check.clearLanes(x);
        Check.times(3, () -> x.hitBumper(1));
        bumpers(x, 1, 2, 340);
        bumpers(x, 0, 2, 220);
        Check.times(30, () -> x.hitBumper(1));
        bumpers(x, 1, 0, 0);
        bumpers(x, 1, 50, 20000);
    }

    private static void bumpers(PinballScorer x, int bumper, int hits, int due) {
        Check.equal("bumperRun of " + hits, x.bumperRun(bumper, hits), due);
        Check.equal("bumperRunBySeries of " + hits, x.bumperRunBySeries(bumper, hits), due);
    }

    private static void tilted() {
        PinballScorer x = Check.started(1);
        Check.times(4, () -> x.hitTarget(0));
        Check.equal("bonusIfDrained before", x.bonusIfDrained(), 100);
        Check.tilt(x);
        lanes(x, 0);
        bumpers(x, 1, 50, 0);
        Check.equal("bonusIfDrained", x.bonusIfDrained(), 0);
    }

    private static void bonusIfDrained() {
        PinballScorer x = Check.withPlayers(1);
        Check.refuses("bonusIfDrained without a game", x, IllegalStateException.class, x::bonusIfDrained);
        x.startGame();
        Check.times(3, () -> x.hitTarget(4));
        Check.equal("would be saved", x.bonusIfDrained(), 0);
        x.drain();
        Check.equal("has been saved", x.bonusIfDrained(), 100);
        Check.clearLanes(x);
        x.hitTarget(1);
        Check.equal("twice two units", x.bonusIfDrained(), 400);
    }

    private static void nextPlayer() {
        PinballScorer x = Check.withPlayers(2);
        Check.refuses("nextPlayer without a game", x, IllegalStateException.class, x::nextPlayer);
        x.startGame();
        Check.equal("would be saved", x.nextPlayer(), 0);
        x.drain();
        Check.equal("the next player", x.nextPlayer(), 1);
        x.drain();
        x.drain();
        Check.equal("the first player again", x.nextPlayer(), 0);
        x.drain();
        Check.lose(x);
        Check.lose(x);
        x.drain();
        Check.equal("ball 3 of player 0", x.nextPlayer(), 1);
        x.drain();
        Check.equal("the last ball would be saved", x.nextPlayer(), 1);
        x.drain();
        Check.refuses("the game would be over", x, NoSuchElementException.class, x::nextPlayer);
    }

    private static void nextPlayerWithExtraBall() {
        PinballScorer x = Check.started(2);
        Check.clearBank(x);
        Check.clearBank(x);
        Check.equal("an extra ball", x.nextPlayer(), 0);
        PinballScorer y = Check.started(2);
        y.hitTarget(0);
        Check.times(28, () -> y.hitBumper(0));
        Check.times(5, () -> y.hitLane(0));
        Check.times(7, () -> y.hitTarget(0));
        Check.equal("the bonus would bring 4980", y.score(0) + y.bonusIfDrained(), 4980);
        Check.equal("which is too little", y.nextPlayer(), 1);
        y.hitTarget(0);
        Check.equal("the bonus would bring 5000", y.score(0) + y.bonusIfDrained(), 5000);
        Check.equal("and so an extra ball", y.nextPlayer(), 0);
        Check.tilt(y);
        Check.equal("but not when tilted", y.nextPlayer(), 1);
        y.undo();
        y.drain();
        Check.clearBank(y);
        Check.equal("the milestone does not come twice", y.nextPlayer(), 1);
    }

    private static void predictionsChangeNothing() {
        PinballScorer x = Check.started(2);
        x.hitLane(1);
        x.hitTarget(2);
        String before = Check.state(x);
        x.laneRun();
        x.laneRunByCounting();
        x.bumperRun(0, 50);
        x.bumperRunBySeries(0, 50);
        x.bonusIfDrained();
        x.nextPlayer();
        x.isConsistent();
        Check.equal("the state after predictions", Check.state(x), before);
        Check.equal("predictions are no changes", x.undo(), 4);
    }
}
