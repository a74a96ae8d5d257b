import java.util.NoSuchElementException;

/** Promises 49 to 52: typing and running scripts. */
public final class ScriptTest {
    private static final String[] COMMANDS = {
        "player", "start", "lane 0", "bumper 1", "target 2", "nudge 3", "drain", "quit"
    };

    public static void main(String[] args) {
        typing();
        fullBuffer();
        everyCommand();
        longestScripts();
        errorPositions();
        errorsInEveryPlace();
        earlierScriptsLeaveNothing();
        failedCommands();
        failureTakesEverythingBack();
        positionsAreKept();
        bufferIsEmptyAfterwards();
        Check.finish();
    }

    private static void typing() {
        PinballScorer x = new PinballScorer();
        for (char wrong : new char[] {0, 9, 10, 31, 127, 128, 255, 65535}) {
            Check.fails("type " + (int) wrong, IllegalArgumentException.class, () -> x.type(wrong));
        }
        for (int code = 32; code < 92; code++) {
            Check.equal("type " + code, x.type((char) code), code - 31);
        }
        PinballScorer y = new PinballScorer();
        for (int code = 92; code <= 126; code++) {
            Check.equal("type " + code, y.type((char) code), code - 91);
        }
    }

    private static void fullBuffer() {
        PinballScorer x = new PinballScorer();
        for (int i = 1; i <= 60; i++) {
            Check.equal("type", x.type(' '), i);
        }
        Check.fails("a 61st character", IllegalStateException.class, () -> x.type('p'));
        Check.fails("a wrong 61st character", IllegalArgumentException.class, () -> x.type((char) 31));
        Check.fails("the full buffer", IllegalArgumentException.class, x::runScript);
        Check.equal("typing again", x.type('p'), 1);
    }

    private static void everyCommand() {
        PinballScorer x = new PinballScorer();
        PinballScorer y = new PinballScorer();
        same(x, "player", y, y::addPlayer);
        same(x, "player", y, y::addPlayer);
        same(x, "start", y, y::startGame);
        for (int i = 0; i < 5; i++) {
            int index = i;
            if (i < 4) {
                same(x, "lane " + i, y, () -> y.hitLane(index));
            }
            if (i < 3) {
                same(x, "bumper " + i, y, () -> y.hitBumper(index));
                same(x, "nudge " + (i + 1), y, () -> y.nudge(index + 1));
            }
            same(x, "target " + i, y, () -> y.hitTarget(index));
        }
        same(x, "drain", y, y::drain);
        same(x, "quit", y, y::quitGame);
        Check.equal("several", Check.runScript(x, "start;lane 1;drain;drain;target 4;nudge 2"), 6);
        y.startGame();
        y.hitLane(1);
        Check.lose(y);
        y.hitTarget(4);
        y.nudge(2);
        Check.equal("the state after several", Check.state(x), Check.state(y));
    }

    private static void same(PinballScorer x, String script, PinballScorer y, Check.Call call) {
        Check.equal(script, Check.runScript(x, script), 1);
        call.run();
        Check.equal("the state after " + script, Check.state(x), Check.state(y));
    }

    private static void longestScripts() {
        PinballScorer x = Check.started(1);
        String lanes = "lane 0;lane 0;lane 0;lane 0;lane 0;lane 0;lane 0;lane 0;quit";
        Check.equal("a script of 60 characters", lanes.length(), 60);
        Check.equal("it runs", Check.runScript(x, lanes), 9);
        Check.equal("the score", x.score(0), 170);
        PinballScorer y = new PinballScorer();
        String most = "start;quit;start;quit;start;quit;start;quit;start;quit";
        y.addPlayer();
        Check.equal("ten short commands", Check.runScript(y, most), 10);
        Check.equal("the games", y.gameCount(), 5);
    }

    private static void error(String script, int due) {
        PinballScorer x = Check.started(1);
        Check.type(x, script);
        Check.refuses("running \"" + script + "\"", x, IllegalArgumentException.class, x::runScript);
        Check.equal("errorPosition of \"" + script + "\"", x.errorPosition(), due);
        Check.fails("no command failed", NoSuchElementException.class, x::failedCommand);
    }

    private static void errorPositions() {
        error("", 0);
        error(" ", 0);
        error(";", 0);
        error("p", 1);
        error("playe", 5);
        error("playEr", 4);
        error("Player", 0);
        error("players", 6);
        error("player ", 6);
        error("player ;start", 6);
        error("lane", 4);
        error("lane ", 5);
        error("lane;", 4);
        error("lane  1", 5);
        error("lane x", 5);
        error("lane /", 5);
        error("lane :", 5);
        error("lane 12", 6);
        error("lane 1 ", 6);
        error("lane -1", 5);
        error("lane 0;", 7);
        error("lane 0; lane 1", 7);
        error("lane 0;;lane 1", 7);
        error("lane 0,lane 1", 6);
        error("drain 1", 5);
        error("quit;target", 11);
        error("quit;target 9;bump", 18);
        error("start;nudge 1;z", 14);
        error("lane 9;lane x", 12);
        StringBuilder full = new StringBuilder();
        for (int i = 0; i < 10; i++) {
            full.append("drain;");
        }
        error(full.toString(), 60);
    }

    /** A wrong character in any place of any command, and an end in any place of it. */
    private static void errorsInEveryPlace() {
        for (String command : COMMANDS) {
            for (int i = 0; i < command.length(); i++) {
                String start = command.substring(0, i);
                error(start, i);
                error(start + "~" + command.substring(i + 1), i);
                error("nudge 1;" + start, 8 + i);
                error("nudge 1;" + start + "~", 8 + i);
            }
            error(command + "~", command.length());
            error(command + ";", command.length() + 1);
        }
    }

    /** What an earlier, longer script held must not complete a later one. */
    private static void earlierScriptsLeaveNothing() {
        PinballScorer x = Check.started(1);
        Check.runScript(x, "lane 1;lane 2");
        cutShort(x, "lane", 4);
        cutShort(x, "lane ", 5);
        cutShort(x, "lane 1;", 7);
        cutShort(x, "lane 1;lan", 10);
        cutShort(x, "", 0);
        Check.equal("a shorter script", Check.runScript(x, "lane 1"), 1);
        Check.equal("the hits", x.hits(), 3);
    }

    private static void cutShort(PinballScorer x, String script, int due) {
        Check.type(x, script);
        Check.fails("running \"" + script + "\"", IllegalArgumentException.class, x::runScript);
        Check.equal("errorPosition of \"" + script + "\"", x.errorPosition(), due);
    }

    private static void failure(PinballScorer x, String script, int due) {
        Check.type(x, script);
        Check.refuses("running " + script, x, IllegalStateException.class, x::runScript);
        Check.equal("failedCommand of " + script, x.failedCommand(), due);
        Check.fails("no script was malformed", NoSuchElementException.class, x::errorPosition);
    }

    private static void failedCommands() {
        failure(new PinballScorer(), "start", 0);
        failure(new PinballScorer(), "player;player;player;player;player", 4);
        failure(new PinballScorer(), "player;start;player", 2);
        failure(new PinballScorer(), "player;start;start", 2);
        for (String command : new String[] {"lane 0", "bumper 0", "target 0", "nudge 1", "drain", "quit"}) {
            failure(Check.withPlayers(1), command, 0);
            failure(Check.withPlayers(1), "start;quit;" + command, 2);
        }
        PinballScorer x = Check.started(1);
        failure(x, "lane 4", 0);
        failure(x, "lane 9", 0);
        failure(x, "lane 3;bumper 3", 1);
        failure(x, "bumper 2;target 5", 1);
        failure(x, "target 4;nudge 0", 1);
        failure(x, "nudge 3;nudge 4;lane 4", 1);
        failure(x, "drain;drain;drain;drain;drain;drain;drain", 6);
    }

    private static void failureTakesEverythingBack() {
        PinballScorer x = Check.started(1);
        Check.lose(x);
        Check.lose(x);
        Check.clearBank(x);
        x.nudge(3);
        failure(x, "drain;start;lane 0;bumper 1;target 2;nudge 3;player", 6);
        PinballScorer y = Check.started(1);
        Check.times(5, () -> y.nudge(3));
        failure(y, "target 0;nudge 3;nudge 3;lane 0;drain;quit;drain", 6);
    }

    private static void positionsAreKept() {
        PinballScorer x = new PinballScorer();
        Check.fails("errorPosition", NoSuchElementException.class, x::errorPosition);
        Check.fails("failedCommand", NoSuchElementException.class, x::failedCommand);
        Check.type(x, "playa");
        Check.fails("a malformed script", IllegalArgumentException.class, x::runScript);
        Check.type(x, "player;drain");
        Check.fails("a failing script", IllegalStateException.class, x::runScript);
        Check.equal("errorPosition stays", x.errorPosition(), 4);
        Check.equal("failedCommand", x.failedCommand(), 1);
        Check.equal("a good script", Check.runScript(x, "player"), 1);
        Check.equal("errorPosition still", x.errorPosition(), 4);
        Check.equal("failedCommand still", x.failedCommand(), 1);
        Check.fails("another malformed script", IllegalArgumentException.class, x::runScript);
        Check.equal("the latest errorPosition", x.errorPosition(), 0);
        Check.equal("failedCommand stays", x.failedCommand(), 1);
        Check.type(x, "drain");
        Check.fails("another failing script", IllegalStateException.class, x::runScript);
        Check.equal("the latest failedCommand", x.failedCommand(), 0);
    }

    private static void bufferIsEmptyAfterwards() {
        PinballScorer x = new PinballScorer();
        Check.runScript(x, "player");
        Check.equal("after a good script", x.type('s'), 1);
        Check.fails("a malformed script", IllegalArgumentException.class, x::runScript);
        Check.equal("after a malformed script", x.type('q'), 1);
        Check.type(x, "uit");
        Check.fails("a failing script", IllegalStateException.class, x::runScript);
        Check.equal("after a failing script", x.type('q'), 1);
    }
}
