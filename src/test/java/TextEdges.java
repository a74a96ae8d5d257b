import java.util.NoSuchElementException;
import java.util.function.Function;

/** Edges of the output text and of scripts: promises 46 to 52, and the terms about scripts. */
final class TextEdges {
    private TextEdges() {
    }

    static void run() {
        renderBall();
        renderRecords();
        outputAt();
        typing();
        type();
        form();
        commands();
        allOrNone();
        errorPositions();
        runScript();
        malformed();
        failing();
        errorPosition();
        failedCommand();
    }

    private static String ballText(PinballScorer x) {
        return Check.output(x, x::renderBall);
    }

    private static void renderBall() {
        Edges.promise(46, "Replaces the output text by a description of the ball: \"x\" and the multiplier, a space, for "
                + "each lane \"*\" if it is lit and \".\" otherwise, a space, for each target \"_\" if it is down and \"|\" "
                + "otherwise, and then \"!\" for each warning and \"T\" if the ball is tilted");
        Edges.edge("a new ball", () -> Check.equal("text", ballText(Check.started(1)), "x1 .... |||||"));
        Edges.edge("the greatest multiplier", () -> {
            PinballScorer x = Check.started(1);
            for (int i = 0; i < 6; i++) {
                Check.clearLanes(x);
            }
            Check.equal("text", ballText(x), "x6 .... |||||");
        });
        Edges.edge("the first lane and the first target alone", () -> {
            PinballScorer x = Check.started(1);
            x.hitLane(0);
            x.hitTarget(0);
            Check.equal("text", ballText(x), "x1 *... _||||");
        });
        Edges.edge("the last lane and the last target alone", () -> {
            PinballScorer x = Check.started(1);
            x.hitLane(3);
            x.hitTarget(4);
            Check.equal("text", ballText(x), "x1 ...* ||||_");
        });
        Edges.edge("all lanes and targets but one", () -> {
            PinballScorer x = Check.started(1);
            for (int i = 0; i < 4; i++) {
                x.hitTarget(i);
                x.hitLane(Math.min(i, 2));
            }
            Check.equal("text", ballText(x), "x1 ***. ____|");
        });
        Edges.edge("the document's own text", () -> {
            PinballScorer x = Check.started(1);
            Check.clearLanes(x);
            x.hitLane(0);
            x.hitLane(3);
            x.hitTarget(0);
            x.hitTarget(3);
            Check.times(4, () -> x.nudge(3));
            Check.equal("text", ballText(x), "x2 *..* _||_|!!");
        });
        for (int i = 0; i <= 3; i++) {
            int warnings = i;
            Edges.edge(warnings + " warnings", () -> {
                PinballScorer x = Check.started(1);
                Check.times(2 * warnings, () -> x.nudge(3));
                String due = "x1 .... |||||" + "!".repeat(warnings) + (warnings == 3 ? "T" : "");
                Check.equal("text", ballText(x), due);
            });
        }
        Edges.edge("a shorter text replaces a longer one", () -> {
            PinballScorer x = Check.started(1);
            Check.tilt(x);
            x.renderBall();
            x.drain();
            x.renderBall();
            Check.equal("text", Check.currentOutput(x), "x1 .... |||||");
        });
        Edges.promise(46, "Returns the length of the output text.");
        Edges.edge("the shortest, then the longest", () -> {
            PinballScorer x = Check.started(1);
            Check.equal("a new ball", x.renderBall(), 13);
            Check.tilt(x);
            Check.equal("a tilted ball", x.renderBall(), 17);
        });
        Edges.promise(46, "Throws `IllegalStateException` if no game is running");
        Edges.needsGame(PinballScorer::renderBall);
        Edges.edge("the text stays", () -> {
            PinballScorer x = Check.started(1);
            x.renderBall();
            x.quitGame();
            Check.fails("renderBall", IllegalStateException.class, x::renderBall);
            Check.equal("text", Check.currentOutput(x), "x1 .... |||||");
        });
    }

    private static void renderRecords() {
        Edges.promise(47, "Replaces the output text by the records: for each its score, \"@\", its game, \"p\" and its "
                + "player, with a comma between two, as in \"5300@2p0,410@1p1\".");
        Edges.edge("one record", () -> {
            PinballScorer x = Check.started(1);
            x.hitLane(0);
            Check.loseBalls(x, 3);
            Check.equal("renderRecords", x.renderRecords(), 7);
            Check.equal("text", Check.currentOutput(x), "100@1p0");
        });
        Edges.edge("two records", () -> {
            PinballScorer x = Edges.overTable();
            Check.equal("text", Check.output(x, x::renderRecords), "0@1p0,0@1p1");
        });
        Edges.edge("five records, and a sixth that is not kept", () -> {
            PinballScorer x = Check.withPlayers(2);
            for (int i = 0; i < 3; i++) {
                x.startGame();
                Check.loseBalls(x, 6);
            }
            Check.equal("text", Check.output(x, x::renderRecords), "0@1p0,0@1p1,0@2p0,0@2p1,0@3p0");
        });
        Edges.edge("the texts of the ball and of the records replace each other", () -> {
            PinballScorer x = Edges.overTable();
            x.startGame();
            x.renderBall();
            x.renderRecords();
            Check.equal("the records", Check.currentOutput(x), "0@1p0,0@1p1");
            x.renderBall();
            Check.equal("the ball", Check.currentOutput(x), "x1 .... |||||");
        });
        Edges.promise(47, "The text is empty without records.");
        Edges.edge("a new table", () -> {
            PinballScorer x = new PinballScorer();
            Check.equal("renderRecords", x.renderRecords(), 0);
            Check.equal("text", Check.currentOutput(x), "");
        });
        Edges.edge("after a text of a ball", () -> {
            PinballScorer x = Check.started(1);
            x.renderBall();
            Check.equal("renderRecords", x.renderRecords(), 0);
            Check.equal("text", Check.currentOutput(x), "");
        });
    }

    private static void outputAt() {
        Edges.promise(48, "Returns a character of the output text, which is empty initially.");
        Edges.edge("the first and the last character", () -> {
            PinballScorer x = Check.started(1);
            x.renderBall();
            Check.equal("outputAt 0", x.outputAt(0), 'x');
            Check.equal("outputAt 12", x.outputAt(12), '|');
        });
        Edges.edge("initially", () -> refusesOutput(new PinballScorer(), 0));
        Edges.edge("the text stays when the ball changes", () -> {
            PinballScorer x = Check.started(1);
            x.renderBall();
            x.hitLane(0);
            x.drain();
            x.quitGame();
            Check.equal("text", Check.currentOutput(x), "x1 .... |||||");
        });
        Edges.promise(48, "Throws `IndexOutOfBoundsException` if there is no such index");
        for (int index : new int[] {-1, 13, Integer.MAX_VALUE, Integer.MIN_VALUE}) {
            Edges.edge("index " + index + " of 13", () -> {
                PinballScorer x = Check.started(1);
                x.renderBall();
                refusesOutput(x, index);
            });
            Edges.edge("index " + index + " of the empty text", () -> refusesOutput(new PinballScorer(), index));
        }
        Edges.edge("an index of the longer text before", () -> {
            PinballScorer x = Check.started(1);
            Check.tilt(x);
            x.renderBall();
            x.drain();
            x.renderBall();
            refusesOutput(x, 13);
            refusesOutput(x, 16);
            x.renderRecords();
            refusesOutput(x, 0);
        });
    }

    private static void refusesOutput(PinballScorer x, int index) {
        Check.refuses("outputAt", x, IndexOutOfBoundsException.class, () -> x.outputAt(index));
    }

    private static void typing() {
        Edges.terms("A script is typed into a buffer of at most 60 characters and then run.");
        Edges.edge("a script of 60 characters", () -> {
            PinballScorer x = Check.started(1);
            String script = "lane 0;lane 0;lane 0;lane 0;lane 0;lane 0;lane 0;lane 0;quit";
            Check.equal("its length", script.length(), 60);
            Check.equal("runScript", Check.runScript(x, script), 9);
            Check.equal("score", x.score(0), 170);
            Check.equal("isRunning", x.isRunning(), false);
        });
        Edges.edge("a 61st character", () -> {
            PinballScorer x = full();
            Check.fails("type", IllegalStateException.class, () -> x.type(';'));
        });
        Edges.edge("what was typed is kept while other calls are made", () -> {
            PinballScorer x = new PinballScorer();
            Check.type(x, "play");
            x.addPlayer();
            x.startGame();
            x.renderBall();
            x.quitGame();
            Check.type(x, "er");
            Check.equal("runScript", x.runScript(), 1);
            Check.equal("playerCount", x.playerCount(), 2);
        });
    }

    private static PinballScorer full() {
        PinballScorer x = new PinballScorer();
        Check.times(60, () -> x.type('p'));
        return x;
    }

    private static void type() {
        Edges.promise(49, "Returns the length of the script buffer.");
        Edges.edge("1 to 60", () -> {
            PinballScorer x = new PinballScorer();
            for (int i = 1; i <= 60; i++) {
                Check.equal("type", x.type(' '), i);
            }
        });
        Edges.edge("1 again after a script", () -> {
            PinballScorer x = new PinballScorer();
            Check.runScript(x, "player");
            Check.equal("type", x.type('p'), 1);
        });
        Edges.promise(49, "Throws `IllegalArgumentException` if the character code is not between 32 and 126");
        for (char character : new char[] {0, 10, 31, 127, 128, 160, 255, 256 + 'p', 65535}) {
            Edges.edge("code " + (int) character, () -> {
                PinballScorer x = new PinballScorer();
                Check.fails("type", IllegalArgumentException.class, () -> x.type(character));
                Check.equal("the next character", x.type('p'), 1);
                PinballScorer y = full();
                Check.fails("type into a full buffer", IllegalArgumentException.class, () -> y.type(character));
            });
        }
        for (char character : new char[] {32, 33, 125, 126}) {
            Edges.edge("code " + (int) character, () -> Check.equal("type", new PinballScorer().type(character), 1));
        }
        Edges.promise(49, "Throws `IllegalStateException` if the script buffer has 60 characters");
        Edges.edge("59 characters, then 60", () -> {
            PinballScorer x = new PinballScorer();
            Check.times(59, () -> x.type('p'));
            Check.equal("the 60th", x.type('p'), 60);
            Check.fails("the 61st", IllegalStateException.class, () -> x.type('p'));
            Check.fails("the 61st again", IllegalStateException.class, () -> x.type('p'));
        });
        Edges.edge("the refused character is not in the buffer", () -> {
            PinballScorer x = new PinballScorer();
            Check.times(10, () -> {
                Check.type(x, "drain;");
                return 0;
            });
            Check.fails("type", IllegalStateException.class, () -> x.type('d'));
            Check.fails("runScript", IllegalArgumentException.class, x::runScript);
            Check.equal("errorPosition", x.errorPosition(), 60);
        });
        Edges.edge("a full buffer is emptied by running it", () -> {
            PinballScorer x = full();
            Check.fails("runScript", IllegalArgumentException.class, x::runScript);
            Check.equal("type", x.type('p'), 1);
        });
    }

    private static void form() {
        Edges.terms("It has the form below, where braces mean zero or more repetitions, brackets an optional part, and a "
                + "bar an alternative.");
        Edges.edge("zero repetitions", () -> Check.equal("runScript", Check.runScript(Check.started(1), "quit"), 1));
        Edges.edge("one repetition", () -> Check.equal("runScript", Check.runScript(Check.started(1), "drain;quit"), 2));
        Edges.edge("the most commands that can take effect", () -> {
            PinballScorer x = Check.started(1);
            String script = "quit;start;quit;start;quit;start;quit;start;quit;start;quit";
            Check.equal("runScript", Check.runScript(x, script), 11);
            Check.equal("gameCount", x.gameCount(), 6);
        });
        Edges.edge("the most commands that the buffer holds", () -> {
            PinballScorer x = Check.started(1);
            Check.type(x, "quit;quit;quit;quit;quit;quit;quit;quit;quit;quit;quit;quit");
            Check.refuses("runScript", x, IllegalStateException.class, x::runScript);
            Check.equal("failedCommand", x.failedCommand(), 1);
        });
        Edges.terms("command = \"player\" | \"start\" | \"lane \" digit | \"bumper \" digit | \"target \" digit | \"nudge \" "
                + "digit | \"drain\" | \"quit\"");
        for (String word : new String[] {"lane ", "bumper ", "target ", "nudge "}) {
            Edges.edge(word + "with each digit", () -> {
                for (char digit = '0'; digit <= '9'; digit++) {
                    hasForm(word + digit);
                }
            });
            Edges.edge(word + "with the characters beside the digits", () -> {
                wrongForm(word + '/', word.length());
                wrongForm(word + ':', word.length());
                wrongForm(word + '-', word.length());
                wrongForm(word + ' ', word.length());
            });
            Edges.edge(word + "with two digits", () -> wrongForm(word + "10", word.length() + 1));
            Edges.edge(word + "without a digit", () -> wrongForm(word, word.length()));
        }
        for (String word : new String[] {"player", "start", "drain", "quit"}) {
            Edges.edge(word + " with a digit", () -> {
                hasForm(word);
                wrongForm(word + " 1", word.length());
                wrongForm(word + "1", word.length());
            });
        }
    }

    /** Whether its command takes effect or not, the script is not refused for its form. */
    private static void hasForm(String script) {
        PinballScorer x = Check.started(1);
        Check.type(x, script);
        String answer = Check.answerOf(x::runScript);
        Check.equal("\"" + script + "\" runs or fails", answer.equals("1") || answer.endsWith("IllegalStateException"), true);
        Check.fails("errorPosition", NoSuchElementException.class, x::errorPosition);
    }

    private static void wrongForm(String script, int duePosition) {
        PinballScorer x = Check.started(1);
        Check.type(x, script);
        Check.refuses("\"" + script + "\"", x, IllegalArgumentException.class, x::runScript);
        Check.equal("errorPosition of \"" + script + "\"", x.errorPosition(), duePosition);
        Check.fails("failedCommand", NoSuchElementException.class, x::failedCommand);
    }

    private static void commands() {
        Edges.terms("The commands stand for addPlayer, startGame, hitLane, hitBumper, hitTarget, nudge, drain and "
                + "quitGame.");
        Edges.edge("player", () -> same("player", Check.withPlayers(3), Check.withPlayers(3), PinballScorer::addPlayer));
        Edges.edge("start", () -> same("start", Check.withPlayers(1), Check.withPlayers(1), PinballScorer::startGame));
        Edges.edge("lane 0", () -> same("lane 0", Check.started(1), Check.started(1), x -> x.hitLane(0)));
        Edges.edge("lane 3", () -> same("lane 3", Check.started(1), Check.started(1), x -> x.hitLane(3)));
        Edges.edge("bumper 0", () -> same("bumper 0", Check.started(1), Check.started(1), x -> x.hitBumper(0)));
        Edges.edge("bumper 2", () -> same("bumper 2", Check.started(1), Check.started(1), x -> x.hitBumper(2)));
        Edges.edge("target 0", () -> same("target 0", Check.started(1), Check.started(1), x -> x.hitTarget(0)));
        Edges.edge("target 4", () -> same("target 4", Check.started(1), Check.started(1), x -> x.hitTarget(4)));
        Edges.edge("nudge 1", () -> same("nudge 1", Check.started(1), Check.started(1), x -> x.nudge(1)));
        Edges.edge("nudge 3", () -> same("nudge 3", Check.started(1), Check.started(1), x -> x.nudge(3)));
        Edges.edge("drain", () -> same("drain", Check.started(2), Check.started(2), PinballScorer::drain));
        Edges.edge("quit", () -> same("quit", Check.started(2), Check.started(2), PinballScorer::quitGame));
        Edges.edge("the drain that ends a game", () -> {
            PinballScorer x = Check.started(1);
            Check.equal("runScript", Check.runScript(x, "drain;drain;drain;drain;drain;drain;start"), 7);
            Check.equal("records and games", x.recordCount() + "/" + x.gameCount() + "/" + x.isRunning(), "1/2/true");
        });
    }

    private static void same(String script, PinballScorer x, PinballScorer y,
            Function<PinballScorer, Object> call) {
        Check.equal("runScript", Check.runScript(x, script), 1);
        call.apply(y);
        Check.equal("the state", Check.state(x), Check.state(y));
    }

    private static void allOrNone() {
        Edges.terms("The commands are executed in order, and either all of them take effect or none.");
        Edges.edge("the order counts", () -> {
            PinballScorer x = new PinballScorer();
            Check.equal("player first", Check.runScript(x, "player;start"), 2);
            PinballScorer y = new PinballScorer();
            Check.type(y, "start;player");
            Check.refuses("start first", y, IllegalStateException.class, y::runScript);
        });
        Edges.edge("the first of two fails", () -> fails(Check.started(1), "lane 4;lane 0", 0));
        Edges.edge("the last of two fails", () -> fails(Check.started(1), "lane 0;lane 4", 1));
        Edges.edge("the last of eight fails", () -> {
            PinballScorer x = Check.started(1);
            Check.clearBank(x);
            fails(x, "nudge 3;nudge 3;bumper 0;target 0;lane 0;drain;quit;drain", 7);
        });
        Edges.edge("a new game and its end are taken back", () -> {
            PinballScorer x = Check.started(1);
            Check.loseBalls(x, 2);
            Check.clearBank(x);
            fails(x, "drain;start;quit;player;player;player;start;player", 7);
        });
        Edges.edge("a tilt is taken back", () -> {
            PinballScorer x = Check.started(1);
            Check.times(5, () -> x.nudge(3));
            fails(x, "nudge 3;lane 0;nudge 4", 2);
        });
        Edges.edge("an extra ball is taken back", () -> {
            PinballScorer x = Check.started(1);
            Check.clearBank(x);
            for (int target = 0; target < 4; target++) {
                x.hitTarget(target);
            }
            fails(x, "target 4;target 5", 1);
            Check.equal("extraBalls", x.extraBalls(0), 0);
        });
    }

    private static void fails(PinballScorer x, String script, int due) {
        Check.type(x, script);
        Check.refuses("runScript of \"" + script + "\"", x, IllegalStateException.class, x::runScript);
        Check.equal("failedCommand of \"" + script + "\"", x.failedCommand(), due);
    }

    private static void errorPositions() {
        Edges.terms("The error position of a script that does not have this form is the index of the first character that "
                + "cannot continue any script of this form, or the length of the script if every character can and the "
                + "end comes too early.");
        Edges.edge("the empty script", () -> wrongForm("", 0));
        Edges.edge("the very first character", () -> {
            for (char character = ' '; character <= '~'; character++) {
                if ("pslbtndq".indexOf(character) < 0) {
                    wrongForm("" + character, 0);
                }
            }
        });
        for (String command : new String[] {"player", "start", "lane 7", "bumper 7", "target 7", "nudge 7", "drain", "quit"}) {
            Edges.edge("the end too early in " + command, () -> {
                for (int i = 0; i < command.length(); i++) {
                    wrongForm(command.substring(0, i), i);
                    wrongForm("quit;" + command.substring(0, i), 5 + i);
                }
            });
            Edges.edge("a wrong character in " + command, () -> {
                for (int i = 0; i < command.length(); i++) {
                    wrongForm(command.substring(0, i) + "#" + command.substring(i + 1), i);
                    wrongForm("quit;" + command.substring(0, i) + ";", 5 + i);
                }
            });
            Edges.edge("a wrong character after " + command, () -> {
                wrongForm(command + " ", command.length());
                wrongForm(command + ",", command.length());
                wrongForm(command + command, command.length());
            });
            Edges.edge("the end too early after " + command + ";", () -> wrongForm(command + ";", command.length() + 1));
        }
        Edges.edge("a capital letter", () -> {
            wrongForm("Drain", 0);
            wrongForm("draiN", 4);
        });
        Edges.edge("two semicolons", () -> wrongForm("drain;;drain", 6));
        Edges.edge("a space before a command", () -> {
            wrongForm(" drain", 0);
            wrongForm("drain; drain", 6);
        });
        Edges.edge("60 characters and the end too early", () -> {
            wrongForm("drain;".repeat(10), 60);
            wrongForm("lane 0;".repeat(8) + "lane", 60);
        });
        Edges.edge("60 characters and the last one wrong", () -> {
            wrongForm("lane 0;".repeat(8) + "quiT", 59);
            wrongForm("drain;".repeat(9) + "drain ", 59);
        });
        Edges.edge("the first of two errors", () -> wrongForm("lane x;bumper y", 5));
        Edges.edge("an error of form after a command that would fail", () -> wrongForm("lane 9;player;start;lane", 24));
        Edges.edge("what an earlier script left behind", () -> {
            PinballScorer x = Check.started(1);
            Check.runScript(x, "drain;lane 0");
            Check.type(x, "drain;");
            Check.fails("runScript", IllegalArgumentException.class, x::runScript);
            Check.equal("errorPosition", x.errorPosition(), 6);
            Check.type(x, "drain;lane ");
            Check.fails("runScript", IllegalArgumentException.class, x::runScript);
            Check.equal("errorPosition", x.errorPosition(), 11);
        });
    }

    private static void runScript() {
        Edges.promise(50, "Runs the script in the script buffer. The buffer is empty afterwards, also if an exception is "
                + "thrown.");
        Edges.edge("after a script that ran", () -> {
            PinballScorer x = new PinballScorer();
            Check.runScript(x, "player");
            Check.fails("the empty buffer", IllegalArgumentException.class, x::runScript);
            Check.equal("errorPosition", x.errorPosition(), 0);
            Check.equal("playerCount", x.playerCount(), 1);
        });
        Edges.edge("after a script without the form", () -> {
            PinballScorer x = new PinballScorer();
            Check.type(x, "playe");
            Check.fails("runScript", IllegalArgumentException.class, x::runScript);
            Check.equal("type", x.type('r'), 1);
        });
        Edges.edge("after a script with a failed command", () -> {
            PinballScorer x = new PinballScorer();
            Check.type(x, "start");
            Check.fails("runScript", IllegalStateException.class, x::runScript);
            Check.equal("a new script", Check.runScript(x, "player"), 1);
        });
        Edges.edge("after the empty script", () -> {
            PinballScorer x = new PinballScorer();
            Check.fails("runScript", IllegalArgumentException.class, x::runScript);
            Check.equal("type", x.type('p'), 1);
        });
        Edges.promise(50, "Returns the number of commands.");
        Edges.edge("one", () -> Check.equal("runScript", Check.runScript(new PinballScorer(), "player"), 1));
        Edges.edge("four players, and the start", () -> {
            PinballScorer x = new PinballScorer();
            Check.equal("runScript", Check.runScript(x, "player;player;player;player;start"), 5);
            Check.equal("playerCount", x.playerCount(), 4);
        });
    }

    private static void malformed() {
        Edges.promise(50, "Throws `IllegalArgumentException` if the script does not have the required form; errorPosition "
                + "then returns its error position");
        Edges.edge("the first commands have no effect", () -> {
            PinballScorer x = new PinballScorer();
            Check.type(x, "player;start;lane");
            Check.refuses("runScript", x, IllegalArgumentException.class, x::runScript);
            Check.equal("errorPosition", x.errorPosition(), 17);
        });
        Edges.edge("a command that would fail comes first", () -> {
            PinballScorer x = new PinballScorer();
            Check.type(x, "start;x");
            Check.refuses("runScript", x, IllegalArgumentException.class, x::runScript);
            Check.equal("errorPosition", x.errorPosition(), 6);
            Check.fails("failedCommand", NoSuchElementException.class, x::failedCommand);
        });
        Edges.edge("no change to undo", () -> {
            PinballScorer x = Check.withPlayers(1);
            Check.fails("runScript", IllegalArgumentException.class, x::runScript);
            Check.equal("undo", x.undo(), 0);
        });
    }

    private static void failing() {
        Edges.promise(50, "Throws `IllegalStateException` if the method for a command throws an exception; no command "
                + "takes effect, and failedCommand then returns the index of that command");
        Edges.edge("a fifth player", () -> fails(Check.withPlayers(4), "player", 0));
        Edges.edge("a player in a game", () -> fails(Check.withPlayers(1), "start;player", 1));
        Edges.edge("a start without players", () -> fails(new PinballScorer(), "start", 0));
        Edges.edge("a start in a game", () -> fails(Check.withPlayers(1), "start;start", 1));
        Edges.edge("lane 4, lane 9", () -> {
            fails(Check.started(1), "lane 3;lane 4", 1);
            fails(Check.started(1), "lane 9", 0);
        });
        Edges.edge("bumper 3, bumper 9", () -> {
            fails(Check.started(1), "bumper 2;bumper 3", 1);
            fails(Check.started(1), "bumper 9", 0);
        });
        Edges.edge("target 5, target 9", () -> {
            fails(Check.started(1), "target 4;target 5", 1);
            fails(Check.started(1), "target 9", 0);
        });
        Edges.edge("nudge 0, nudge 4, nudge 9", () -> {
            fails(Check.started(1), "nudge 1;nudge 0", 1);
            fails(Check.started(1), "nudge 3;nudge 4", 1);
            fails(Check.started(1), "nudge 9", 0);
        });
        for (String command : new String[] {"lane 0", "bumper 0", "target 0", "nudge 1", "drain", "quit"}) {
            Edges.edge(command + " without a game", () -> {
                fails(new PinballScorer(), command, 0);
                fails(Check.withPlayers(1), "start;quit;" + command, 2);
                fails(Edges.overTable(), command, 0);
            });
        }
        Edges.edge("after the drain that ends the game", () -> {
            PinballScorer x = Check.started(1);
            Check.loseBalls(x, 2);
            fails(x, "drain;drain;drain", 2);
            Check.equal("isRunning", x.isRunning(), true);
        });
        Edges.edge("a wrong index and no game at once", () -> fails(Check.withPlayers(1), "lane 9", 0));
    }

    private static void errorPosition() {
        Edges.promise(51, "Returns the error position of the latest script that did not have the required form.");
        Edges.edge("of two scripts without the form", () -> {
            PinballScorer x = new PinballScorer();
            malform(x, "player;player;");
            Check.equal("the first", x.errorPosition(), 14);
            malform(x, "");
            Check.equal("the second", x.errorPosition(), 0);
        });
        Edges.edge("scripts with the form do not change it", () -> {
            PinballScorer x = new PinballScorer();
            malform(x, "play");
            Check.runScript(x, "player");
            Check.equal("after one that ran", x.errorPosition(), 4);
            Check.type(x, "drain");
            Check.fails("runScript", IllegalStateException.class, x::runScript);
            Check.equal("after one with a failed command", x.errorPosition(), 4);
        });
        Edges.promise(51, "Throws `NoSuchElementException` if there was no such script");
        Edges.edge("a new table", () -> refusesErrorPosition(new PinballScorer()));
        Edges.edge("a script that was typed but not run", () -> {
            PinballScorer x = new PinballScorer();
            Check.type(x, "x");
            refusesErrorPosition(x);
        });
        Edges.edge("a script that ran, and one with a failed command", () -> {
            PinballScorer x = new PinballScorer();
            Check.runScript(x, "player");
            refusesErrorPosition(x);
            Check.type(x, "drain");
            Check.fails("runScript", IllegalStateException.class, x::runScript);
            refusesErrorPosition(x);
        });
    }

    private static void malform(PinballScorer x, String script) {
        Check.type(x, script);
        Check.fails("runScript", IllegalArgumentException.class, x::runScript);
    }

    private static void refusesErrorPosition(PinballScorer x) {
        Check.refuses("errorPosition", x, NoSuchElementException.class, x::errorPosition);
    }

    private static void failedCommand() {
        Edges.promise(52, "Returns the index of the command that failed in the latest script with a failed command.");
        Edges.promise(52, "Returns the index of the command, counted from 0.");
        Edges.edge("of two scripts with a failed command", () -> {
            PinballScorer x = Check.withPlayers(1);
            fails(x, "start;quit;quit", 2);
            fails(x, "drain", 0);
        });
        Edges.edge("other scripts do not change it", () -> {
            PinballScorer x = Check.withPlayers(1);
            fails(x, "start;quit;quit", 2);
            malform(x, "start;x");
            Check.equal("after one without the form", x.failedCommand(), 2);
            Check.runScript(x, "start");
            Check.equal("after one that ran", x.failedCommand(), 2);
        });
        Edges.promise(52, "Throws `NoSuchElementException` if there was no such script");
        Edges.edge("a new table", () -> refusesFailedCommand(new PinballScorer()));
        Edges.edge("a method that failed outside a script", () -> {
            PinballScorer x = new PinballScorer();
            Check.fails("drain", IllegalStateException.class, x::drain);
            refusesFailedCommand(x);
        });
        Edges.edge("a script that ran, and one without the form", () -> {
            PinballScorer x = new PinballScorer();
            Check.runScript(x, "player");
            refusesFailedCommand(x);
            malform(x, "x");
            refusesFailedCommand(x);
        });
    }

    private static void refusesFailedCommand(PinballScorer x) {
        Check.refuses("failedCommand", x, NoSuchElementException.class, x::failedCommand);
    }
}
