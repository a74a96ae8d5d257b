import java.util.NoSuchElementException;

/** Promises 53 to 55: undo and the snapshot. */
public final class UndoTest {
    public static void main(String[] args) {
        nothingToUndo();
        everyChange();
        onlyEightChanges();
        undoAndGoOn();
        whatIsNoChange();
        scriptIsOneChange();
        failedScriptKeepsEight();
        undoLeavesTexts();
        save();
        restore();
        restoreEndsUndo();
        snapshotLeavesTexts();
        Check.finish();
    }

    private static void nothingToUndo() {
        PinballScorer x = new PinballScorer();
        Check.refuses("undo on a new object", x, NoSuchElementException.class, x::undo);
        x.addPlayer();
        Check.equal("undo", x.undo(), 0);
        Check.refuses("undo once more", x, NoSuchElementException.class, x::undo);
    }

    private static void undoes(String what, PinballScorer x, Check.Call change) {
        String before = Check.state(x);
        change.run();
        x.undo();
        Check.equal("the state after undoing " + what, Check.state(x), before);
        change.run();
    }

    private static void everyChange() {
        PinballScorer x = new PinballScorer();
        undoes("addPlayer", x, x::addPlayer);
        undoes("addPlayer", x, x::addPlayer);
        undoes("startGame", x, x::startGame);
        undoes("a drain that saves", x, x::drain);
        Check.clearBank(x);
        x.hitTarget(0);
        x.hitTarget(1);
        x.hitTarget(2);
        x.hitTarget(3);
        undoes("the second bank", x, () -> x.hitTarget(4));
        undoes("hitLane", x, () -> x.hitLane(1));
        undoes("hitLane of a lit lane", x, () -> x.hitLane(1));
        undoes("hitBumper", x, () -> x.hitBumper(2));
        undoes("a drain with an extra ball", x, x::drain);
        Check.times(5, () -> x.nudge(3));
        undoes("the tilt", x, () -> x.nudge(2));
        undoes("a hit on a tilted ball", x, () -> x.hitTarget(3));
        undoes("the drain of a tilted ball", x, x::drain);
        Check.times(3, () -> {
            Check.lose(x);
            return 0;
        });
        Check.lose(x);
        x.drain();
        undoes("the end of the game", x, x::drain);
        Check.equal("the game is over", x.isRunning() + "/" + x.recordCount(), "false/2");
        undoes("the next game", x, x::startGame);
        undoes("quitGame", x, x::quitGame);
        undoes("a script", x, () -> Check.runScript(x, "start;lane 0"));
    }

    private static void onlyEightChanges() {
        PinballScorer x = Check.started(1);
        String[] states = new String[21];
        for (int i = 0; i < 20; i++) {
            states[i] = Check.state(x);
            x.hitBumper(i % 3);
        }
        for (int left = 7; left >= 0; left--) {
            Check.equal("undo", x.undo(), left);
            Check.equal("the state with " + left + " left", Check.state(x), states[12 + left]);
        }
        Check.refuses("a ninth undo", x, NoSuchElementException.class, x::undo);
    }

    private static void undoAndGoOn() {
        PinballScorer x = Check.started(1);
        Check.times(10, () -> x.hitLane(0));
        x.undo();
        x.undo();
        Check.equal("undo thrice", x.undo(), 5);
        String before = Check.state(x);
        x.hitBumper(0);
        x.hitBumper(1);
        Check.equal("undo the newer one", x.undo(), 6);
        Check.equal("undo the older one", x.undo(), 5);
        Check.equal("the state before both", Check.state(x), before);
    }

    private static void whatIsNoChange() {
        PinballScorer x = Check.started(2);
        Check.fails("a wrong hit", IndexOutOfBoundsException.class, () -> x.hitLane(4));
        Check.fails("a wrong player", IllegalStateException.class, x::addPlayer);
        Check.fails("a wrong script", IllegalArgumentException.class, x::runScript);
        x.type('l');
        x.renderBall();
        x.renderRecords();
        x.save();
        x.laneRun();
        x.isConsistent();
        Check.equal("none of them is a change", x.undo(), 2);
        Check.equal("but the start was", x.isRunning(), false);
        x.startGame();
        Check.tilt(x);
        String before = Check.state(x);
        x.nudge(1);
        Check.equal("a nudge of a tilted ball changes nothing", Check.state(x), before);
        Check.equal("but is a change", x.undo(), 7);
        Check.equal("whose undo changes nothing", Check.state(x), before);
        Check.equal("the tilt is undone next", x.undo() + "/" + x.isTilted(), "6/false");
    }

    private static void scriptIsOneChange() {
        PinballScorer x = new PinballScorer();
        String before = Check.state(x);
        Check.runScript(x, "player;start;lane 0;bumper 0;target 0;nudge 1;drain");
        Check.equal("undo", x.undo(), 0);
        Check.equal("the state before the script", Check.state(x), before);
    }

    private static void failedScriptKeepsEight() {
        PinballScorer x = Check.started(1);
        String[] states = new String[9];
        for (int i = 0; i < 9; i++) {
            states[i] = Check.state(x);
            x.hitBumper(0);
        }
        Check.type(x, "lane 0;lane 4");
        Check.fails("a failing script", IllegalStateException.class, x::runScript);
        for (int left = 7; left >= 0; left--) {
            Check.equal("undo after a failing script", x.undo(), left);
            Check.equal("the state", Check.state(x), states[left + 1]);
        }
    }

    private static void undoLeavesTexts() {
        PinballScorer x = new PinballScorer();
        x.addPlayer();
        fillTexts(x);
        x.undo();
        checkTexts("undo", x);
        x.save();
        x.addPlayer();
        x.undo();
        Check.equal("the snapshot is not undone", x.restore(), 2);
    }

    private static void snapshotLeavesTexts() {
        PinballScorer x = new PinballScorer();
        x.addPlayer();
        x.save();
        fillTexts(x);
        x.restore();
        checkTexts("restore", x);
    }

    /** Leaves an output text, an error position, a failed command and two typed characters behind. */
    private static void fillTexts(PinballScorer x) {
        Check.type(x, "player;");
        Check.fails("a malformed script", IllegalArgumentException.class, x::runScript);
        Check.type(x, "start;quit;quit");
        Check.fails("a failing script", IllegalStateException.class, x::runScript);
        x.startGame();
        x.renderBall();
        x.type('p');
        x.type('l');
    }

    private static void checkTexts(String what, PinballScorer x) {
        Check.equal("errorPosition after " + what, x.errorPosition(), 7);
        Check.equal("failedCommand after " + what, x.failedCommand(), 2);
        Check.equal("output after " + what, Check.currentOutput(x), "x1 .... |||||");
        Check.equal("no game after " + what, x.isRunning(), false);
        Check.type(x, "ayer");
        Check.equal("script after " + what, x.runScript(), 1);
    }

    private static void save() {
        PinballScorer x = new PinballScorer();
        Check.equal("save without players", x.save(), 0);
        x.addPlayer();
        x.addPlayer();
        Check.equal("save", x.save(), 2);
        x.startGame();
        String before = Check.state(x);
        Check.equal("save in a game", x.save(), 2);
        Check.equal("changes nothing", Check.state(x), before);
        Check.equal("keeps what can be undone", x.undo(), 2);
    }

    private static void restore() {
        PinballScorer x = new PinballScorer();
        x.addPlayer();
        Check.refuses("restore without a snapshot", x, IllegalStateException.class, x::restore);
        Check.equal("which leaves the undo", x.undo(), 0);
        x.save();
        x.addPlayer();
        Check.equal("restore a table without players", x.restore(), 0);
        Check.equal("no players", x.playerCount(), 0);
        Check.times(3, x::addPlayer);
        x.startGame();
        playSome(x);
        String first = Check.state(x);
        x.save();
        finishGame(x);
        Check.equal("the records", x.recordCount(), 3);
        Check.equal("restore a ball in play", x.restore(), 3);
        Check.equal("the state", Check.state(x), first);
        x.hitBumper(2);
        Check.equal("restore once more", x.restore(), 3);
        Check.equal("the state once more", Check.state(x), first);
        finishGame(x);
        x.addPlayer();
        String second = Check.state(x);
        x.save();
        x.startGame();
        Check.equal("the later snapshot replaces the earlier one", x.restore(), 4);
        Check.equal("its state", Check.state(x), second);
    }

    private static void playSome(PinballScorer x) {
        Check.lose(x);
        Check.clearBank(x);
        Check.clearBank(x);
        Check.clearLanes(x);
        x.hitLane(2);
        x.hitBumper(1);
        x.hitTarget(4);
        x.nudge(3);
        x.nudge(3);
        x.nudge(1);
    }

    private static void finishGame(PinballScorer x) {
        for (int i = 0; i < 30 && x.isRunning(); i++) {
            x.drain();
        }
    }

    private static void restoreEndsUndo() {
        PinballScorer x = Check.started(2);
        x.save();
        Check.times(12, () -> x.hitLane(1));
        x.restore();
        Check.refuses("undo after restore", x, NoSuchElementException.class, x::undo);
        x.hitLane(1);
        String before = Check.state(x);
        x.hitLane(1);
        Check.equal("undo of a later change", x.undo(), 1);
        Check.equal("its state", Check.state(x), before);
        x.undo();
        Check.refuses("no undo beyond the restore", x, NoSuchElementException.class, x::undo);
    }
}
