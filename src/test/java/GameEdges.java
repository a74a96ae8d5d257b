import java.util.NoSuchElementException;
import java.util.function.BiFunction;

/** Edges of players and games: promises 1 to 3 and 9 to 17, and the terms about games. */
final class GameEdges {
    private GameEdges() {
    }

    static void run() {
        oneToFourPlayers();
        indicesInOrder();
        running();
        gameNumbers();
        startedGame();
        threeBalls();
        manyCalls();
        newObject();
        addPlayer();
        startGame();
        quitGame();
        counts();
        currentPlayer();
        ballNumber();
        score();
        extraBalls();
        playerAtRank();
    }

    private static void oneToFourPlayers() {
        Edges.terms("The class runs games of one to four players");
        Edges.edge("no player", () -> {
            PinballScorer x = new PinballScorer();
            Check.refuses("startGame", x, NoSuchElementException.class, x::startGame);
        });
        Edges.edge("one player", () -> Check.equal("startGame", Check.withPlayers(1).startGame(), 1));
        Edges.edge("four players", () -> Check.equal("startGame", Check.withPlayers(4).startGame(), 1));
        Edges.terms("At most 4 players exist");
        Edges.edge("the fourth player", () -> Check.equal("addPlayer", Check.withPlayers(3).addPlayer(), 3));
        Edges.edge("a fifth player", () -> refusesPlayer(Check.withPlayers(4)));
        Edges.edge("a fifth player after a game that was quit", () -> {
            PinballScorer x = Check.started(4);
            x.quitGame();
            refusesPlayer(x);
        });
        Edges.edge("a fifth player after a game that is over", () -> {
            PinballScorer x = Check.started(4);
            Check.loseBalls(x, 12);
            refusesPlayer(x);
        });
        Edges.edge("a fourth player in the place of one that was undone", () -> {
            PinballScorer x = Check.withPlayers(4);
            x.undo();
            Check.equal("addPlayer", x.addPlayer(), 3);
            refusesPlayer(x);
        });
    }

    private static void refusesPlayer(PinballScorer x) {
        Check.refuses("addPlayer", x, IllegalStateException.class, x::addPlayer);
    }

    private static void indicesInOrder() {
        Edges.terms("they have the indices 0 to n - 1 in the order in which they were added, and play in this order.");
        Edges.edge("the indices of four players", () -> {
            PinballScorer x = new PinballScorer();
            for (int i = 0; i < 4; i++) {
                Check.equal("addPlayer", x.addPlayer(), i);
            }
        });
        Edges.edge("a player added between two games", () -> {
            PinballScorer x = Edges.quitTable();
            Check.equal("addPlayer", x.addPlayer(), 2);
            x.startGame();
            Check.equal("the players in turn", turns(x, 4), "0120");
        });
        Edges.edge("four players in turn", () -> Check.equal("turns", turns(Check.started(4), 12), "012301230123"));
        Edges.edge("one player alone", () -> Check.equal("turns", turns(Check.started(1), 3), "000"));
    }

    /** The players of the ball in play and of the ones that follow, each ball lost without points. */
    private static String turns(PinballScorer x, int balls) {
        StringBuilder text = new StringBuilder();
        for (int i = 0; i < balls; i++) {
            text.append(x.currentPlayer());
            Check.loseBall(x);
        }
        return text.toString();
    }

    private static void running() {
        Edges.terms("A game can be running or not; no game is running initially.");
        Edges.edge("a new table", () -> Check.equal("isRunning", new PinballScorer().isRunning(), false));
        Edges.promise(10, "Returns whether a game is running.");
        Edges.edge("players alone", () -> Check.equal("isRunning", Check.withPlayers(4).isRunning(), false));
        Edges.edge("a started game", () -> Check.equal("isRunning", Check.started(1).isRunning(), true));
        Edges.edge("a game that was quit", () -> Check.equal("isRunning", Edges.quitTable().isRunning(), false));
        Edges.edge("before the last drain and after it", () -> {
            PinballScorer x = Check.started(2);
            Check.loseBalls(x, 5);
            x.drain();
            Check.equal("isRunning before", x.isRunning(), true);
            x.drain();
            Check.equal("isRunning after", x.isRunning(), false);
            x.undo();
            Check.equal("isRunning after undo", x.isRunning(), true);
        });
        Edges.edge("a start that is refused", () -> {
            PinballScorer x = new PinballScorer();
            Check.fails("startGame", NoSuchElementException.class, x::startGame);
            Check.equal("isRunning", x.isRunning(), false);
        });
    }

    private static void gameNumbers() {
        Edges.terms("Games are numbered from 1 in the order in which they are started.");
        Edges.edge("the first game", () -> Check.equal("startGame", Check.withPlayers(1).startGame(), 1));
        Edges.edge("after a game that was quit", () -> Check.equal("startGame", Edges.quitTable().startGame(), 2));
        Edges.edge("after a game that is over", () -> Check.equal("startGame", Edges.overTable().startGame(), 2));
        Edges.edge("after a start that was refused", () -> {
            PinballScorer x = Check.started(1);
            Check.fails("startGame", IllegalStateException.class, x::startGame);
            x.quitGame();
            Check.equal("startGame", x.startGame(), 2);
        });
        Edges.edge("after a start that was undone", () -> {
            PinballScorer x = Edges.quitTable();
            x.startGame();
            x.undo();
            Check.equal("startGame", x.startGame(), 2);
        });
    }

    private static void startedGame() {
        Edges.terms("When a game is started, all scores and extra balls become 0");
        Edges.edge("four players with points", () -> {
            PinballScorer x = Check.started(4);
            for (int i = 0; i < 4; i++) {
                Check.clearLanes(x);
                x.drain();
            }
            x.quitGame();
            x.startGame();
            for (int i = 0; i < 4; i++) {
                Check.equal("score " + i, x.score(i), 0);
            }
        });
        Edges.edge("the last player with two extra balls", () -> {
            PinballScorer x = Check.started(4);
            Check.loseBalls(x, 3);
            twoExtraBalls(x);
            x.quitGame();
            Check.equal("before", x.extraBalls(3), 2);
            x.startGame();
            Check.equal("after", x.extraBalls(3), 0);
        });
        Edges.terms("the current player is player 0, the ball number is 1, and a new ball begins.");
        Edges.edge("after a game that was quit at ball 3 of the last player", () -> {
            PinballScorer x = Check.started(4);
            String fresh = Check.ball(x);
            Check.loseBalls(x, 11);
            x.drain();
            Check.clearLanes(x);
            Check.clearBank(x);
            x.hitLane(3);
            x.hitBumper(0);
            x.hitTarget(0);
            x.nudge(3);
            Check.equal("before", x.currentPlayer() + "/" + x.ballNumber(), "3/3");
            x.quitGame();
            x.startGame();
            Check.equal("after", x.currentPlayer() + "/" + x.ballNumber(), "0/1");
            Check.equal("the ball", Check.ball(x), fresh);
        });
        Edges.edge("after a game that is over", () -> {
            PinballScorer x = Edges.overTable();
            x.startGame();
            Check.equal("player and ball", x.currentPlayer() + "/" + x.ballNumber(), "0/1");
        });
        Edges.edge("after a game that was quit with a tilted ball", () -> {
            PinballScorer x = Check.started(1);
            String fresh = Check.ball(x);
            Check.tilt(x);
            x.quitGame();
            x.startGame();
            Check.equal("the ball", Check.ball(x), fresh);
        });
    }

    /** The most that a player can hold by the document's rules: one for the milestone, one for a second bank. */
    static void twoExtraBalls(PinballScorer x) {
        Check.clearBank(x);
        Check.clearBank(x);
        Check.times(22, () -> x.hitBumper(0));
    }

    private static void threeBalls() {
        Edges.terms("Each player plays 3 balls in a game, apart from extra balls.");
        Edges.edge("one player", () -> Check.equal("balls", ballsOf(Check.started(1)), 3));
        Edges.edge("four players", () -> Check.equal("balls", ballsOf(Check.started(4)), 12));
        Edges.edge("one player with an extra ball", () -> {
            PinballScorer x = Check.started(1);
            Check.clearBank(x);
            Check.clearBank(x);
            Check.equal("balls", ballsOf(x), 4);
        });
        Edges.edge("one of two players with two extra balls", () -> {
            PinballScorer x = Check.started(2);
            twoExtraBalls(x);
            Check.equal("balls", ballsOf(x), 8);
        });
    }

    private static int ballsOf(PinballScorer x) {
        int balls = 0;
        while (x.isRunning() && balls < 100) {
            Check.loseBall(x);
            balls++;
        }
        return balls;
    }

    private static void manyCalls() {
        Edges.introduction("An object is used for at most 512 calls after it has been made");
        Edges.edge("the 512th call of an object", () -> {
            PinballScorer x = new PinballScorer();
            x.addPlayer();
            x.startGame();
            Check.times(508, () -> x.hitBumper(0));
            Check.equal("the 511th call", x.undo(), 7);
            Check.equal("the 512th call", x.score(0), 1800 + 492 * 200);
        });
        Edges.edge("512 calls with the greatest numbers", () -> {
            PinballScorer x = Check.started(1);
            Check.times(5, () -> {
                Check.clearLanes(x);
                return 0;
            });
            Check.times(488, () -> x.hitTarget(0));
            Check.equal("pointsTotal", x.pointsTotal(), 6000 + 1200 + 487 * 120);
            Check.equal("score", x.score(0), x.pointsTotal());
        });
    }

    private static void newObject() {
        Edges.promise(1, "Creates a table without players and records.");
        PinballScorer x = new PinballScorer();
        Edges.edge("no players", () -> Check.equal("playerCount", x.playerCount(), 0));
        Edges.edge("no records", () -> Check.equal("recordCount", x.recordCount(), 0));
        Edges.edge("no games", () -> Check.equal("gameCount", x.gameCount(), 0));
        Edges.edge("no points", () -> Check.equal("pointsTotal", x.pointsTotal(), 0));
        Edges.edge("a second object has nothing of the first", () -> {
            PinballScorer first = Edges.overTable();
            first.save();
            first.renderRecords();
            first.type('p');
            PinballScorer second = new PinballScorer();
            Check.equal("state", Check.state(second), Check.state(x));
            Check.equal("output", Check.currentOutput(second), "");
            Check.equal("type", second.type('p'), 1);
            Check.fails("restore", IllegalStateException.class, second::restore);
            Check.fails("undo", NoSuchElementException.class, second::undo);
        });
    }

    private static void addPlayer() {
        Edges.promise(2, "Adds a player, whose score is 0.");
        Edges.edge("after a game with points", () -> {
            PinballScorer x = Check.started(1);
            twoExtraBalls(x);
            x.quitGame();
            Check.equal("addPlayer", x.addPlayer(), 1);
            Check.equal("the new player", x.score(1) + "/" + x.extraBalls(1), "0/0");
            Check.equal("the old player keeps extra balls", x.extraBalls(0), 2);
        });
        Edges.edge("in the place of a player that was taken back", () -> {
            PinballScorer x = Check.withPlayers(1);
            x.save();
            x.addPlayer();
            x.startGame();
            Check.loseBall(x);
            twoExtraBalls(x);
            x.quitGame();
            x.restore();
            Check.equal("addPlayer", x.addPlayer(), 1);
            Check.equal("the new player", x.score(1) + "/" + x.extraBalls(1), "0/0");
        });
        Edges.promise(2, "Throws `IllegalStateException` if a game is running, or there are 4 players");
        Edges.edge("a game with one player", () -> refusesPlayer(Check.started(1)));
        Edges.edge("a game with four players", () -> refusesPlayer(Check.started(4)));
        Edges.edge("four players without a game", () -> refusesPlayer(Check.withPlayers(4)));
        Edges.edge("a game in its last ball", () -> {
            PinballScorer x = Check.started(1);
            Check.loseBalls(x, 2);
            x.drain();
            refusesPlayer(x);
            x.drain();
            Check.equal("addPlayer after it", x.addPlayer(), 1);
        });
    }

    private static void startGame() {
        Edges.promise(3, "Throws `IllegalStateException` if a game is running");
        Edges.edge("right after the start", () -> refusesStart(Check.started(1)));
        Edges.edge("with a tilted ball", () -> {
            PinballScorer x = Check.started(4);
            Check.tilt(x);
            refusesStart(x);
        });
        Edges.edge("in the last ball", () -> {
            PinballScorer x = Check.started(1);
            Check.loseBalls(x, 2);
            x.drain();
            refusesStart(x);
            x.drain();
            Check.equal("startGame after it", x.startGame(), 2);
        });
        Edges.promise(3, "Throws `NoSuchElementException` if there are no players");
        Edges.edge("a new table", () -> {
            PinballScorer x = new PinballScorer();
            Check.refuses("startGame", x, NoSuchElementException.class, x::startGame);
        });
        Edges.edge("the only player undone", () -> {
            PinballScorer x = Check.withPlayers(1);
            x.undo();
            Check.refuses("startGame", x, NoSuchElementException.class, x::startGame);
        });
    }

    private static void refusesStart(PinballScorer x) {
        Check.refuses("startGame", x, IllegalStateException.class, x::startGame);
    }

    private static void quitGame() {
        Edges.promise(9, "Quits the running game. Its scores stay, but are not entered into the records.");
        Edges.edge("in the very last ball", () -> {
            PinballScorer x = Check.started(2);
            Check.loseBalls(x, 4);
            x.hitLane(0);
            Check.loseBall(x);
            x.hitBumper(0);
            x.quitGame();
            Check.equal("the scores", x.score(0) + "/" + x.score(1), "100/50");
            Check.equal("recordCount", x.recordCount(), 0);
        });
        Edges.edge("with records of an earlier game", () -> {
            PinballScorer x = Edges.overTable();
            x.startGame();
            x.hitLane(0);
            x.quitGame();
            Check.equal("the records", Check.output(x, x::renderRecords), "0@1p0,0@1p1");
        });
        Edges.edge("bonus units are not awarded", () -> {
            PinballScorer x = Check.started(1);
            Check.clearBank(x);
            x.quitGame();
            Check.equal("score", x.score(0), 1000);
            Check.equal("pointsOf u", x.pointsOf('u'), 0);
        });
        Edges.promise(9, "Returns the index of the current player before the call.");
        Edges.edge("the first player", () -> Check.equal("quitGame", Check.started(4).quitGame(), 0));
        Edges.edge("the last player", () -> {
            PinballScorer x = Check.started(4);
            Check.loseBalls(x, 3);
            Check.equal("quitGame", x.quitGame(), 3);
        });
        Edges.promise(9, "Throws `IllegalStateException` if no game is running");
        Edges.needsGame(PinballScorer::quitGame);
    }

    private static void counts() {
        Edges.promise(11, "Returns the number of games that have been started.");
        Edges.edge("none", () -> Check.equal("gameCount", Check.withPlayers(4).gameCount(), 0));
        Edges.edge("one that is running", () -> Check.equal("gameCount", Check.started(1).gameCount(), 1));
        Edges.edge("one that was quit", () -> Check.equal("gameCount", Edges.quitTable().gameCount(), 1));
        Edges.edge("one that is over", () -> Check.equal("gameCount", Edges.overTable().gameCount(), 1));
        Edges.edge("one whose start was undone", () -> {
            PinballScorer x = Check.started(1);
            x.undo();
            Check.equal("gameCount", x.gameCount(), 0);
        });
        Edges.promise(12, "Returns the number of players.");
        Edges.edge("none", () -> Check.equal("playerCount", new PinballScorer().playerCount(), 0));
        Edges.edge("four, and a fifth refused", () -> {
            PinballScorer x = Check.withPlayers(4);
            Check.fails("addPlayer", IllegalStateException.class, x::addPlayer);
            Check.equal("playerCount", x.playerCount(), 4);
        });
    }

    private static void currentPlayer() {
        Edges.promise(13, "Returns the current player.");
        Edges.edge("the last player, then the first one", () -> {
            PinballScorer x = Check.started(4);
            Check.loseBalls(x, 3);
            Check.equal("the last", x.currentPlayer(), 3);
            Check.loseBall(x);
            Check.equal("the first", x.currentPlayer(), 0);
        });
        Edges.edge("a saved ball keeps the player", () -> {
            PinballScorer x = Check.started(2);
            x.drain();
            Check.equal("currentPlayer", x.currentPlayer(), 0);
        });
        Edges.promise(13, "Throws `IllegalStateException` if no game is running");
        Edges.needsGame(PinballScorer::currentPlayer);
    }

    private static void ballNumber() {
        Edges.promise(14, "Returns the ball number, 1 to 3.");
        Edges.edge("1 until the last player's drain", () -> {
            PinballScorer x = Check.started(4);
            Check.loseBalls(x, 3);
            x.drain();
            Check.equal("before", x.ballNumber(), 1);
            x.drain();
            Check.equal("after", x.ballNumber(), 2);
        });
        Edges.edge("3, and not 4 with extra balls", () -> {
            PinballScorer x = Check.started(1);
            Check.loseBalls(x, 2);
            Check.equal("ball 3", x.ballNumber(), 3);
            twoExtraBalls(x);
            Check.loseBall(x);
            Check.equal("the first extra ball", x.ballNumber(), 3);
            Check.loseBall(x);
            Check.equal("the second extra ball", x.ballNumber(), 3);
            Check.loseBall(x);
            Check.equal("isRunning", x.isRunning(), false);
        });
        Edges.promise(14, "Throws `IllegalStateException` if no game is running");
        Edges.needsGame(PinballScorer::ballNumber);
    }

    private static void score() {
        Edges.promise(15, "Returns the score of a player in the running game, or in the latest one if no game is running.");
        Edges.edge("before any game", () -> Check.equal("score", Check.withPlayers(4).score(3), 0));
        Edges.edge("after a game that is over", () -> {
            PinballScorer x = Check.started(1);
            x.hitLane(0);
            Check.loseBalls(x, 3);
            Check.equal("score", x.score(0), 100);
        });
        Edges.edge("after a game that was quit", () -> {
            PinballScorer x = Check.started(1);
            x.hitLane(0);
            x.quitGame();
            Check.equal("score", x.score(0), 100);
            x.startGame();
            Check.equal("score in the next game", x.score(0), 0);
            x.undo();
            Check.equal("score when its start is undone", x.score(0), 100);
        });
        Edges.promise(15, "Throws `IndexOutOfBoundsException` if there is no such player");
        Edges.hasIndices(4, PinballScorer::score);
        playerIndices(PinballScorer::score);
    }

    private static void extraBalls() {
        Edges.promise(16, "Returns the number of extra balls of a player.");
        Edges.edge("none before any game", () -> Check.equal("extraBalls", Check.withPlayers(4).extraBalls(3), 0));
        Edges.edge("two, one, none", () -> {
            PinballScorer x = Check.started(2);
            twoExtraBalls(x);
            Check.equal("two", x.extraBalls(0), 2);
            Check.loseBall(x);
            Check.equal("one", x.extraBalls(0), 1);
            Check.loseBall(x);
            Check.equal("none", x.extraBalls(0), 0);
            Check.equal("the other player's", x.extraBalls(1), 0);
        });
        Edges.promise(16, "Throws `IndexOutOfBoundsException` if there is no such player");
        Edges.hasIndices(4, PinballScorer::extraBalls);
        playerIndices(PinballScorer::extraBalls);
    }

    private static void playerIndices(BiFunction<PinballScorer, Integer, Object> call) {
        for (int count = 0; count < 4; count++) {
            int index = count;
            Edges.edge("index " + count + " of " + count + " players", () -> {
                PinballScorer x = Check.withPlayers(index);
                Check.refuses("the call", x, IndexOutOfBoundsException.class, () -> call.apply(x, index));
            });
        }
        Edges.edge("a player that was undone", () -> {
            PinballScorer x = Check.withPlayers(2);
            x.undo();
            Check.refuses("the call", x, IndexOutOfBoundsException.class, () -> call.apply(x, 1));
        });
    }

    private static void playerAtRank() {
        Edges.promise(17, "Returns the player at a rank when players are sorted by score in descending order, then by "
                + "extra balls in descending order, then by index in ascending order.");
        Edges.edge("all equal", () -> Check.equal("ranks", ranks(Check.withPlayers(4)), "0123"));
        Edges.edge("a later player's score that is higher by the least", () -> {
            PinballScorer x = Check.started(4);
            for (int i = 0; i < 4; i++) {
                Check.times(i, () -> x.hitLane(0));
                Check.loseBall(x);
            }
            Check.equal("scores", x.score(1) + "/" + x.score(2) + "/" + x.score(3), "100/110/120");
            Check.equal("ranks", ranks(x), "3210");
        });
        Edges.edge("equal scores, the later player with an extra ball", () -> {
            PinballScorer x = Check.started(4);
            Edges.scoreUpTo(x, 2000);
            Check.loseBall(x);
            Check.clearBank(x);
            Check.clearBank(x);
            Check.equal("scores", x.score(0) + "/" + x.score(1), "2000/2000");
            Check.equal("extra balls", x.extraBalls(0) + "/" + x.extraBalls(1), "0/1");
            Check.equal("ranks", ranks(x), "1023");
        });
        Edges.edge("equal scores and extra balls, the later player's turn", () -> {
            PinballScorer x = Check.started(2);
            x.hitLane(0);
            Check.loseBall(x);
            x.hitLane(3);
            Check.equal("ranks", ranks(x), "01");
        });
        Edges.edge("a higher score comes before more extra balls", () -> {
            PinballScorer x = Check.started(2);
            Edges.scoreUpTo(x, 2010);
            Check.loseBall(x);
            Check.clearBank(x);
            Check.clearBank(x);
            Check.equal("scores", x.score(0) + "/" + x.score(1), "2010/2000");
            Check.equal("extra balls", x.extraBalls(0) + "/" + x.extraBalls(1), "0/1");
            Check.equal("ranks", ranks(x), "01");
        });
        Edges.edge("after the game", () -> {
            PinballScorer x = Check.started(2);
            Check.loseBall(x);
            x.hitLane(0);
            x.quitGame();
            Check.equal("ranks", ranks(x), "10");
        });
        Edges.promise(17, "Throws `NoSuchElementException` if there is no such rank");
        for (int rank : new int[] {-1, 4, Integer.MAX_VALUE, Integer.MIN_VALUE}) {
            Edges.edge("rank " + rank + " of 4", () -> refusesRank(Check.withPlayers(4), rank));
        }
        for (int count = 0; count < 4; count++) {
            int rank = count;
            Edges.edge("rank " + rank + " of " + rank, () -> refusesRank(Check.withPlayers(rank), rank));
        }
    }

    private static void refusesRank(PinballScorer x, int rank) {
        Check.refuses("playerAtRank", x, NoSuchElementException.class, () -> x.playerAtRank(rank));
    }

    private static String ranks(PinballScorer x) {
        StringBuilder text = new StringBuilder();
        for (int rank = 0; rank < x.playerCount(); rank++) {
            text.append(x.playerAtRank(rank));
        }
        return text.toString();
    }
}
