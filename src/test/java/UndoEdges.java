import java.util.NoSuchElementException;
import java.util.function.Consumer;

/** Edges of undo, the snapshot and exceptions: promises 53 to 55, and the terms about changes and exceptions. */
final class UndoEdges {
    private static final Class<IllegalStateException> STATE = IllegalStateException.class;
    private static final Class<IllegalArgumentException> ARGUMENT = IllegalArgumentException.class;
    private static final Class<IndexOutOfBoundsException> INDEX = IndexOutOfBoundsException.class;
    private static final Class<NoSuchElementException> ELEMENT = NoSuchElementException.class;

    private UndoEdges() {
    }

    static void run() {
        changes();
        sameState();
        noChanges();
        eightChanges();
        undo();
        notCovered();
        covered();
        save();
        restore();
        nothingToUndo();
        exceptionsChangeNothing();
        firstException();
    }

    private static void changes() {
        Edges.terms("A change is a call of addPlayer, startGame, hitLane, hitBumper, hitTarget, nudge, drain, quitGame or "
                + "runScript that returns normally");
        Edges.edge("addPlayer", () -> isChange(Check.withPlayers(3), PinballScorer::addPlayer));
        Edges.edge("startGame", () -> isChange(Check.withPlayers(1), PinballScorer::startGame));
        Edges.edge("hitLane", () -> isChange(Check.started(1), x -> x.hitLane(0)));
        Edges.edge("hitBumper", () -> isChange(Check.started(1), x -> x.hitBumper(0)));
        Edges.edge("hitTarget", () -> isChange(Check.started(1), x -> x.hitTarget(0)));
        Edges.edge("nudge", () -> isChange(Check.started(1), x -> x.nudge(1)));
        Edges.edge("drain that saves", () -> isChange(Check.started(1), PinballScorer::drain));
        Edges.edge("drain that does not", () -> {
            PinballScorer x = Check.started(1);
            Check.clearBank(x);
            isChange(x, PinballScorer::drain);
        });
        Edges.edge("quitGame", () -> isChange(Check.started(1), PinballScorer::quitGame));
        Edges.edge("runScript with one command", () -> isChange(Check.started(1), x -> Check.runScript(x, "lane 0")));
        Edges.edge("runScript with eleven commands", () -> isChange(Check.started(1),
                x -> Check.runScript(x, "quit;start;quit;start;quit;start;quit;start;quit;start;quit")));
    }

    /** Undone alone, the change leaves as many changes as there were before it. */
    private static void isChange(PinballScorer x, Consumer<PinballScorer> change) {
        int before = changesIn(x);
        String state = Check.state(x);
        change.accept(x);
        Check.equal("the state changes", Check.state(x).equals(state), false);
        Check.equal("undo", x.undo(), before);
        Check.equal("the state", Check.state(x), state);
    }

    /** The changes that can be undone, counted with one more, so that nothing of them is lost when there are few. */
    private static int changesIn(PinballScorer x) {
        if (x.isRunning()) {
            x.nudge(1);
        } else {
            x.addPlayer();
        }
        return x.undo();
    }

    private static void sameState() {
        Edges.terms("even if the state is the same afterwards.");
        Edges.edge("a nudge of a tilted ball", () -> {
            PinballScorer x = Check.started(1);
            Check.tilt(x);
            String before = Check.state(x);
            x.nudge(1);
            Check.equal("the state after nudge", Check.state(x), before);
            Check.equal("undo", x.undo(), 7);
            Check.equal("the state after undo", Check.state(x), before);
            Check.equal("isTilted", x.isTilted(), true);
        });
        Edges.edge("a script that nudges a tilted ball", () -> {
            PinballScorer x = Check.started(1);
            Check.tilt(x);
            Check.runScript(x, "nudge 1;nudge 2");
            Check.equal("undo", x.undo(), 7);
            Check.equal("isTilted", x.isTilted(), true);
        });
        Edges.edge("eight nudges of a tilted ball", () -> {
            PinballScorer x = Check.started(1);
            Check.tilt(x);
            Check.times(8, () -> x.nudge(3));
            Check.times(8, x::undo);
            Check.equal("isTilted", x.isTilted(), true);
            Check.refuses("undo", x, ELEMENT, x::undo);
        });
    }

    private static void noChanges() {
        Edges.edge("a refused call is no change", () -> {
            PinballScorer x = Check.started(1);
            refuseEverythingInGame(x);
            Check.equal("undo", x.undo(), 1);
            Check.equal("isRunning", x.isRunning(), false);
        });
        Edges.edge("a script that fails is no change", () -> {
            PinballScorer x = Check.started(1);
            Check.type(x, "lane 0;lane 4");
            Check.fails("runScript", STATE, x::runScript);
            Check.fails("runScript of nothing", ARGUMENT, x::runScript);
            Check.equal("undo", x.undo(), 1);
        });
        Edges.edge("asking, rendering, typing and saving are no changes", () -> {
            PinballScorer x = Check.started(1);
            Check.state(x);
            x.laneRun();
            x.bumperRun(0, 50);
            x.nextPlayer();
            x.bonusIfDrained();
            x.isConsistent();
            x.renderBall();
            x.renderRecords();
            x.type('l');
            x.save();
            Check.equal("undo", x.undo(), 1);
        });
        Edges.edge("undo is no change", () -> {
            PinballScorer x = Check.withPlayers(2);
            x.undo();
            Check.equal("undo", x.undo(), 0);
            Check.equal("playerCount", x.playerCount(), 0);
        });
    }

    private static void eightChanges() {
        Edges.terms("The latest 8 changes can be undone, the latest one first.");
        for (int i = 1; i <= 28; i++) {
            int changes = i;
            Edges.edge(changes + " changes", () -> undoAll(changes));
        }
        Edges.edge("eight changes after a script that failed", () -> {
            PinballScorer x = Check.started(1);
            Check.times(8, () -> x.hitBumper(0));
            Check.type(x, "bumper 1;bumper 3");
            Check.refuses("runScript", x, STATE, x::runScript);
            Check.equal("undo", x.undo(), 7);
            x.hitBumper(0);
            Check.times(8, x::undo);
            Check.equal("the score", x.score(0), 0);
            Check.refuses("undo", x, ELEMENT, x::undo);
        });
        Edges.edge("a change after an undo takes the undone one's place", () -> {
            PinballScorer x = Check.started(1);
            Check.times(9, () -> x.hitBumper(0));
            x.undo();
            x.undo();
            x.hitLane(0);
            Check.equal("undo of the lane", x.undo(), 6);
            Check.equal("isLit", x.isLit(0), false);
            Check.equal("undo of a bumper", x.undo(), 5);
            Check.equal("bumperValue", x.bumperValue(0), 110);
        });
    }

    private static void undoAll(int changes) {
        PinballScorer x = new PinballScorer();
        String[] states = new String[changes];
        for (int i = 0; i < changes; i++) {
            states[i] = Check.state(x);
            change(x, i);
        }
        for (int i = 1; i <= Math.min(changes, 8); i++) {
            Check.equal("undo", x.undo(), Math.min(changes, 8) - i);
            Check.equal("the state after undo " + i, Check.state(x), states[changes - i]);
        }
        Check.refuses("one undo more", x, ELEMENT, x::undo);
    }

    private static void change(PinballScorer x, int index) {
        if (index == 0) {
            x.addPlayer();
        } else if (index == 1) {
            x.startGame();
        } else {
            x.hitBumper(index % 3);
        }
    }

    private static void undo() {
        Edges.promise(53, "Undoes the latest change that has not been undone.");
        Edges.edge("two in a row", () -> {
            PinballScorer x = Check.started(1);
            x.hitLane(0);
            x.hitLane(1);
            x.undo();
            Check.equal("the first undo", x.isLit(0) + "/" + x.isLit(1), "true/false");
            x.undo();
            Check.equal("the second undo", x.isLit(0) + "/" + x.isLit(1), "false/false");
        });
        Edges.edge("the end of a game, its records, and the start", () -> {
            PinballScorer x = Check.started(1);
            Check.loseBalls(x, 2);
            x.drain();
            String before = Check.state(x);
            x.drain();
            Check.equal("records", x.recordCount() + "/" + x.isRunning(), "1/false");
            x.undo();
            Check.equal("the state", Check.state(x), before);
            Check.times(6, x::undo);
            Check.equal("no game", x.isRunning() + "/" + x.gameCount(), "false/0");
        });
        Edges.promise(53, "Returns the number of changes that can still be undone.");
        Edges.edge("the only one", () -> Check.equal("undo", Check.withPlayers(1).undo(), 0));
        Edges.edge("the first of eight", () -> Check.equal("undo", changed(8).undo(), 7));
        Edges.edge("the first of nine", () -> Check.equal("undo", changed(9).undo(), 7));
        Edges.edge("the first of seven", () -> Check.equal("undo", changed(7).undo(), 6));
        Edges.promise(53, "Throws `NoSuchElementException` if there is nothing to undo");
        Edges.edge("a new table", () -> refusesUndo(new PinballScorer()));
        Edges.edge("everything has been undone", () -> {
            PinballScorer x = Check.withPlayers(3);
            Check.times(3, x::undo);
            refusesUndo(x);
        });
        Edges.edge("eight of nine have been undone", () -> {
            PinballScorer x = changed(9);
            Check.times(8, x::undo);
            refusesUndo(x);
            Check.equal("the ninth stays", x.playerCount(), 1);
        });
        Edges.edge("a refused undo, then a change", () -> {
            PinballScorer x = new PinballScorer();
            refusesUndo(x);
            refusesUndo(x);
            x.addPlayer();
            Check.equal("undo", x.undo(), 0);
            refusesUndo(x);
        });
    }

    private static PinballScorer changed(int times) {
        PinballScorer x = new PinballScorer();
        for (int i = 0; i < times; i++) {
            change(x, i);
        }
        return x;
    }

    private static void refusesUndo(PinballScorer x) {
        Check.refuses("undo", x, ELEMENT, x::undo);
    }

    private static void notCovered() {
        Edges.terms("Undo and the snapshot cover everything except the script buffer, the error position, the index of the "
                + "failed command, the output text and the snapshot itself.");
        Edges.edge("undo", () -> {
            PinballScorer x = Check.started(1);
            x.hitLane(0);
            leaveTexts(x);
            x.undo();
            checkTexts(x);
        });
        Edges.edge("restore", () -> {
            PinballScorer x = Check.started(1);
            x.save();
            x.hitLane(0);
            leaveTexts(x);
            x.restore();
            checkTexts(x);
        });
        Edges.edge("restore does not bring back older ones", () -> {
            PinballScorer x = Check.started(1);
            Check.fails("a script without the form", ARGUMENT, x::runScript);
            Check.type(x, "start");
            Check.fails("a script with a failed command", STATE, x::runScript);
            x.renderRecords();
            x.save();
            x.hitLane(0);
            leaveTexts(x);
            x.restore();
            checkTexts(x);
        });
        Edges.edge("undo of a script does not bring its text back", () -> {
            PinballScorer x = new PinballScorer();
            Check.runScript(x, "player");
            x.undo();
            Check.equal("type", x.type('p'), 1);
        });
        Edges.edge("the snapshot stays when its changes are undone", () -> {
            PinballScorer x = Check.withPlayers(2);
            x.save();
            x.undo();
            x.undo();
            Check.equal("restore", x.restore(), 2);
            Check.equal("playerCount", x.playerCount(), 2);
        });
        Edges.edge("a snapshot taken after an undo", () -> {
            PinballScorer x = Check.withPlayers(2);
            x.undo();
            Check.equal("save", x.save(), 1);
            Check.times(2, x::addPlayer);
            Check.equal("restore", x.restore(), 1);
        });
    }

    /** Leaves an output text, an error position of 5, a failed command 1 and two typed characters behind. */
    private static void leaveTexts(PinballScorer x) {
        x.renderBall();
        Check.type(x, "drain#");
        Check.fails("a script without the form", ARGUMENT, x::runScript);
        Check.type(x, "drain;player");
        Check.fails("a script with a failed command", STATE, x::runScript);
        Check.type(x, "qu");
    }

    private static void checkTexts(PinballScorer x) {
        Check.equal("output", Check.currentOutput(x), "x1 *... |||||");
        Check.equal("isLit", x.isLit(0), false);
        Check.equal("errorPosition", x.errorPosition(), 5);
        Check.equal("failedCommand", x.failedCommand(), 1);
        Check.type(x, "it");
        Check.equal("the script", x.runScript(), 1);
    }

    private static void covered() {
        Edges.edge("undo of a ball with everything changed", () -> {
            PinballScorer x = Check.started(2);
            playAll(x);
            String before = Check.state(x);
            String answers = answers(x);
            x.drain();
            x.undo();
            Check.equal("the state", Check.state(x), before);
            Check.equal("predictions", answers(x), answers);
        });
        Edges.edge("restore of a ball with everything changed", () -> {
            PinballScorer x = Check.started(2);
            playAll(x);
            x.save();
            String before = Check.state(x);
            String answers = answers(x);
            Check.loseBalls(x, 8);
            x.startGame();
            Check.tilt(x);
            x.restore();
            Check.equal("the state", Check.state(x), before);
            Check.equal("predictions", answers(x), answers);
        });
        Edges.edge("restore of records and of the latest scores", () -> {
            PinballScorer x = Check.started(2);
            playAll(x);
            Check.loseBalls(x, 8);
            Check.equal("the game is over", x.isRunning() + "/" + x.recordCount(), "false/2");
            x.save();
            String before = Check.state(x);
            x.addPlayer();
            for (int i = 0; i < 2; i++) {
                x.startGame();
                Check.loseBalls(x, 9);
            }
            Check.equal("more records", x.recordCount(), 5);
            x.restore();
            Check.equal("the state", Check.state(x), before);
        });
        Edges.edge("undo of a record that pushed out another", () -> {
            PinballScorer x = fullRecords();
            lastBall(x);
            String before = Check.state(x);
            x.drain();
            Check.equal("the best record", x.recordScore(0), 100);
            x.undo();
            Check.equal("the state", Check.state(x), before);
            Check.equal("the records", Check.output(x, x::renderRecords), "50@1p0,50@2p0,50@3p0,50@4p0,50@5p0");
        });
        Edges.edge("restore of a record that was pushed out", () -> {
            PinballScorer x = fullRecords();
            x.save();
            String before = Check.state(x);
            lastBall(x);
            x.drain();
            x.restore();
            Check.equal("the state", Check.state(x), before);
            Check.equal("the records", Check.output(x, x::renderRecords), "50@1p0,50@2p0,50@3p0,50@4p0,50@5p0");
        });
        Edges.edge("undo and restore of a record by another player", () -> {
            PinballScorer x = Check.started(2);
            Check.loseBall(x);
            x.hitLane(0);
            Check.loseBalls(x, 5);
            x.save();
            x.startGame();
            x.hitTarget(0);
            Check.loseBalls(x, 5);
            x.drain();
            x.drain();
            Check.equal("the records", Check.output(x, x::renderRecords), "300@2p0,100@1p1,0@1p0,0@2p1");
            x.undo();
            Check.equal("after undo", Check.output(x, x::renderRecords), "100@1p1,0@1p0");
            x.drain();
            x.restore();
            Check.equal("after restore", Check.output(x, x::renderRecords), "100@1p1,0@1p0");
        });
        Edges.edge("undo of a drain brings the player and the ball number back", () -> {
            PinballScorer x = Check.started(2);
            Check.loseBall(x);
            x.undo();
            Check.equal("player 0", x.currentPlayer() + "/" + x.ballNumber(), "0/1");
            x.drain();
            Check.loseBall(x);
            Check.equal("the drain", x.currentPlayer() + "/" + x.ballNumber(), "0/2");
            x.undo();
            Check.equal("player 1", x.currentPlayer() + "/" + x.ballNumber(), "1/1");
        });
        Edges.edge("restore brings the player and the ball number back", () -> {
            PinballScorer x = Check.started(4);
            Check.loseBalls(x, 7);
            x.save();
            Check.loseBalls(x, 3);
            Check.equal("before", x.currentPlayer() + "/" + x.ballNumber(), "2/3");
            x.restore();
            Check.equal("after", x.currentPlayer() + "/" + x.ballNumber(), "3/2");
        });
        Edges.edge("whether the ball has been saved", () -> {
            PinballScorer x = Check.started(1);
            x.save();
            x.drain();
            x.restore();
            Check.equal("after restore", x.wouldBeSaved(), true);
            x.drain();
            x.save();
            x.drain();
            x.restore();
            Check.equal("after restore of a saved ball", x.wouldBeSaved(), false);
        });
    }

    /** Five games of one player with 50 points each. */
    private static PinballScorer fullRecords() {
        PinballScorer x = Check.withPlayers(1);
        for (int i = 0; i < 5; i++) {
            x.startGame();
            x.hitBumper(0);
            Check.loseBalls(x, 3);
        }
        return x;
    }

    /** Starts a game of one player and leaves its last ball, with 100 points, one drain before its end. */
    private static void lastBall(PinballScorer x) {
        x.startGame();
        x.hitLane(0);
        Check.loseBalls(x, 2);
        x.drain();
    }

    /** A ball of player 0 with something of everything, and two extra balls at hand: the game has 8 balls. */
    private static void playAll(PinballScorer x) {
        Check.clearLanes(x);
        Check.clearBank(x);
        Check.clearBank(x);
        for (int i = 0; i < 3; i++) {
            x.hitLane(i);
            x.hitBumper(i);
            x.hitTarget(i + 1);
        }
        x.nudge(3);
        x.nudge(3);
        x.nudge(2);
    }

    private static String answers(PinballScorer x) {
        return x.laneRun() + "/" + x.bumperRun(0, 20) + "/" + x.bonusIfDrained() + "/" + x.nextPlayer() + "/"
                + Check.output(x, x::renderBall);
    }

    private static void save() {
        Edges.promise(54, "Takes a snapshot, which replaces an earlier one.");
        Edges.edge("an earlier one with more players", () -> {
            PinballScorer x = Check.withPlayers(2);
            x.save();
            x.undo();
            x.save();
            Check.equal("restore", x.restore(), 1);
            Check.equal("restore again", x.restore(), 1);
        });
        Edges.edge("later changes are not in it", () -> {
            PinballScorer x = Check.started(1);
            x.save();
            Check.clearLanes(x);
            Check.clearBank(x);
            x.restore();
            Check.equal("score and ball", x.score(0) + "/" + Check.output(x, x::renderBall), "0/x1 .... |||||");
        });
        Edges.promise(54, "Returns the number of players.");
        for (int i = 0; i <= 4; i++) {
            int count = i;
            Edges.edge(count + " players", () -> Check.equal("save", Check.withPlayers(count).save(), count));
        }
        Edges.edge("what can be undone stays", () -> {
            PinballScorer x = Check.withPlayers(3);
            x.save();
            Check.equal("undo", x.undo(), 2);
        });
    }

    private static void restore() {
        Edges.promise(55, "Restores the snapshot, which is kept.");
        Edges.edge("three times", () -> {
            PinballScorer x = Check.started(2);
            x.hitLane(0);
            x.save();
            String before = Check.state(x);
            for (int i = 0; i < 3; i++) {
                x.hitLane(1 + i);
                Check.equal("restore", x.restore(), 2);
                Check.equal("the state", Check.state(x), before);
            }
        });
        Edges.edge("right after save", () -> {
            PinballScorer x = Check.withPlayers(1);
            x.save();
            Check.equal("restore", x.restore(), 1);
        });
        Edges.edge("a table without players", () -> {
            PinballScorer x = new PinballScorer();
            x.save();
            Check.times(4, x::addPlayer);
            x.startGame();
            Check.equal("restore", x.restore(), 0);
            Check.equal("the state", Check.state(x), Check.state(new PinballScorer()));
        });
        Edges.promise(55, "Returns the number of players.");
        Edges.edge("four players, with fewer now", () -> {
            PinballScorer x = Check.withPlayers(4);
            x.save();
            x.undo();
            Check.equal("restore", x.restore(), 4);
        });
        Edges.promise(55, "Throws `IllegalStateException` if there is no snapshot");
        Edges.edge("a new table", () -> refusesRestore(new PinballScorer()));
        Edges.edge("a game", () -> {
            PinballScorer x = Check.started(1);
            refusesRestore(x);
            Check.equal("what can be undone stays", x.undo(), 1);
        });
    }

    private static void refusesRestore(PinballScorer x) {
        Check.refuses("restore", x, STATE, x::restore);
    }

    private static void nothingToUndo() {
        Edges.promise(55, "Afterwards there is nothing to undo.");
        Edges.edge("changes after save", () -> {
            PinballScorer x = changed(3);
            x.save();
            Check.times(9, () -> x.hitBumper(0));
            x.restore();
            refusesUndo(x);
        });
        Edges.edge("changes before save alone", () -> {
            PinballScorer x = changed(9);
            x.save();
            x.restore();
            refusesUndo(x);
        });
        Edges.edge("the first change after restore", () -> {
            PinballScorer x = changed(9);
            x.save();
            x.restore();
            String before = Check.state(x);
            x.hitLane(0);
            Check.equal("undo", x.undo(), 0);
            Check.equal("the state", Check.state(x), before);
            refusesUndo(x);
        });
        Edges.edge("nine changes after restore", () -> {
            PinballScorer x = changed(5);
            x.save();
            x.restore();
            Check.times(9, () -> x.hitLane(0));
            Check.equal("undo", x.undo(), 7);
            Check.times(7, x::undo);
            refusesUndo(x);
            Check.equal("hits", x.hits(), 4);
        });
    }

    private static void exceptionsChangeNothing() {
        Edges.terms("A method that throws an exception changes nothing unless its description says otherwise.");
        Edges.edge("in a game", () -> {
            PinballScorer x = Check.started(1);
            x.save();
            x.hitLane(0);
            leaveTexts(x);
            refuseEverythingInGame(x);
            Check.equal("undo", x.undo(), 2);
            checkTexts(x);
            Check.equal("restore", x.restore(), 1);
            Check.equal("the restored game", x.isRunning() + "/" + x.hits(), "true/0");
        });
        Edges.edge("without a game", () -> {
            PinballScorer x = Check.started(1);
            x.hitLane(0);
            leaveTexts(x);
            Check.type(x, "it");
            x.quitGame();
            refuseEverythingWithoutGame(x);
            Check.equal("undo", x.undo(), 3);
            Check.equal("output", Check.currentOutput(x), "x1 *... |||||");
            Check.equal("the positions", x.errorPosition() + "/" + x.failedCommand(), "5/1");
            Check.equal("the script", x.runScript(), 1);
        });
        Edges.edge("on a new table", () -> {
            PinballScorer x = new PinballScorer();
            Check.refuses("startGame", x, ELEMENT, x::startGame);
            Check.refuses("meanScore", x, ArithmeticException.class, x::meanScore);
            Check.refuses("restore", x, STATE, x::restore);
            Check.refuses("errorPosition", x, ELEMENT, x::errorPosition);
            Check.refuses("failedCommand", x, ELEMENT, x::failedCommand);
            refuseEverythingWithoutGame(x);
            refusesUndo(x);
            Check.equal("addPlayer", x.addPlayer(), 0);
        });
    }

    private static void refuseEverythingInGame(PinballScorer x) {
        Check.refuses("addPlayer", x, STATE, x::addPlayer);
        Check.refuses("startGame", x, STATE, x::startGame);
        Check.refuses("hitLane", x, INDEX, () -> x.hitLane(4));
        Check.refuses("hitBumper", x, INDEX, () -> x.hitBumper(3));
        Check.refuses("hitTarget", x, INDEX, () -> x.hitTarget(5));
        Check.refuses("nudge", x, ARGUMENT, () -> x.nudge(4));
        Check.refuses("score", x, INDEX, () -> x.score(4));
        Check.refuses("extraBalls", x, INDEX, () -> x.extraBalls(4));
        Check.refuses("playerAtRank", x, ELEMENT, () -> x.playerAtRank(4));
        Check.refuses("isLit", x, INDEX, () -> x.isLit(4));
        Check.refuses("bumperValue", x, INDEX, () -> x.bumperValue(3));
        Check.refuses("isDown", x, INDEX, () -> x.isDown(5));
        Check.refuses("bumperRun", x, INDEX, () -> x.bumperRun(3, 0));
        Check.refuses("bumperRun", x, ARGUMENT, () -> x.bumperRun(0, 51));
        Check.refuses("bumperRunBySeries", x, INDEX, () -> x.bumperRunBySeries(3, 0));
        Check.refuses("bumperRunBySeries", x, ARGUMENT, () -> x.bumperRunBySeries(0, 51));
        refuseAnywhere(x);
    }

    private static void refuseEverythingWithoutGame(PinballScorer x) {
        Check.refuses("hitLane", x, STATE, () -> x.hitLane(0));
        Check.refuses("hitBumper", x, STATE, () -> x.hitBumper(0));
        Check.refuses("hitTarget", x, STATE, () -> x.hitTarget(0));
        Check.refuses("nudge", x, STATE, () -> x.nudge(1));
        Check.refuses("drain", x, STATE, x::drain);
        Check.refuses("quitGame", x, STATE, x::quitGame);
        Check.refuses("currentPlayer", x, STATE, x::currentPlayer);
        Check.refuses("ballNumber", x, STATE, x::ballNumber);
        Check.refuses("laneRun", x, STATE, x::laneRun);
        Check.refuses("laneRunByCounting", x, STATE, x::laneRunByCounting);
        Check.refuses("bumperRun", x, STATE, () -> x.bumperRun(0, 0));
        Check.refuses("bumperRunBySeries", x, STATE, () -> x.bumperRunBySeries(0, 0));
        Check.refuses("bonusIfDrained", x, STATE, x::bonusIfDrained);
        Check.refuses("nextPlayer", x, STATE, x::nextPlayer);
        Check.refuses("renderBall", x, STATE, x::renderBall);
        refuseAnywhere(x);
    }

    private static void refuseAnywhere(PinballScorer x) {
        Check.refuses("recordScore", x, ELEMENT, () -> x.recordScore(5));
        Check.refuses("recordPlayer", x, ELEMENT, () -> x.recordPlayer(5));
        Check.refuses("recordGame", x, ELEMENT, () -> x.recordGame(5));
        Check.refuses("pointsOf", x, ARGUMENT, () -> x.pointsOf('x'));
        Check.refuses("tiltRate", x, ArithmeticException.class, x::tiltRate);
        Check.refuses("outputAt", x, INDEX, () -> x.outputAt(60));
        Check.refuses("type", x, ARGUMENT, () -> x.type((char) 127));
    }

    private static void firstException() {
        Edges.terms("If several exceptions apply, the one that is listed first is thrown.");
        PinballScorer x = Check.withPlayers(1);
        Edges.edge("hitLane", () -> Check.refuses("call", x, INDEX, () -> x.hitLane(4)));
        Edges.edge("hitBumper", () -> Check.refuses("call", x, INDEX, () -> x.hitBumper(3)));
        Edges.edge("hitTarget", () -> Check.refuses("call", x, INDEX, () -> x.hitTarget(5)));
        Edges.edge("nudge", () -> Check.refuses("call", x, ARGUMENT, () -> x.nudge(0)));
        Edges.edge("isLit", () -> Check.refuses("call", x, INDEX, () -> x.isLit(4)));
        Edges.edge("bumperValue", () -> Check.refuses("call", x, INDEX, () -> x.bumperValue(3)));
        Edges.edge("isDown", () -> Check.refuses("call", x, INDEX, () -> x.isDown(5)));
        Edges.edge("bumperRun, all three", () -> Check.refuses("call", x, INDEX, () -> x.bumperRun(3, 51)));
        Edges.edge("bumperRun, the last two", () -> Check.refuses("call", x, ARGUMENT, () -> x.bumperRun(2, 51)));
        Edges.edge("bumperRunBySeries, all three", () ->
                Check.refuses("call", x, INDEX, () -> x.bumperRunBySeries(-1, -1)));
        Edges.edge("bumperRunBySeries, the last two", () ->
                Check.refuses("call", x, ARGUMENT, () -> x.bumperRunBySeries(0, -1)));
        Edges.edge("type", () -> {
            PinballScorer y = new PinballScorer();
            Check.times(60, () -> y.type(' '));
            Check.fails("call", ARGUMENT, () -> y.type((char) 31));
        });
        Edges.edge("runScript", () -> {
            PinballScorer y = new PinballScorer();
            Check.type(y, "drain;");
            Check.refuses("call", y, ARGUMENT, y::runScript);
        });
    }
}
