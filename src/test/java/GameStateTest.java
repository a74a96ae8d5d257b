import java.util.NoSuchElementException;

/** Promises 10 to 17: what the game tells. */
public final class GameStateTest {
    public static void main(String[] args) {
        running();
        counts();
        currentPlayerAndBall();
        scoreAndExtraBalls();
        ranks();
        Check.finish();
    }

    private static void running() {
        PinballScorer x = Check.withPlayers(1);
        Check.equal("isRunning before", x.isRunning(), false);
        x.startGame();
        Check.equal("isRunning in the game", x.isRunning(), true);
        x.quitGame();
        Check.equal("isRunning after", x.isRunning(), false);
    }

    private static void counts() {
        PinballScorer x = new PinballScorer();
        for (int i = 0; i < 4; i++) {
            Check.equal("playerCount", x.playerCount(), i);
            x.addPlayer();
        }
        Check.equal("playerCount at its limit", x.playerCount(), 4);
        for (int i = 0; i < 3; i++) {
            Check.equal("gameCount", x.gameCount(), i);
            x.startGame();
            Check.equal("gameCount in the game", x.gameCount(), i + 1);
            x.quitGame();
        }
        Check.equal("gameCount after", x.gameCount(), 3);
    }

    private static void currentPlayerAndBall() {
        PinballScorer x = Check.withPlayers(2);
        Check.refuses("currentPlayer without a game", x, IllegalStateException.class, x::currentPlayer);
        Check.refuses("ballNumber without a game", x, IllegalStateException.class, x::ballNumber);
        x.startGame();
        Check.equal("currentPlayer", x.currentPlayer(), 0);
        Check.equal("ballNumber", x.ballNumber(), 1);
        Check.lose(x);
        Check.equal("currentPlayer next", x.currentPlayer(), 1);
        Check.equal("ballNumber still", x.ballNumber(), 1);
        Check.lose(x);
        Check.equal("currentPlayer round", x.currentPlayer(), 0);
        Check.equal("ballNumber next", x.ballNumber(), 2);
        x.quitGame();
        Check.refuses("currentPlayer after a game", x, IllegalStateException.class, x::currentPlayer);
        Check.refuses("ballNumber after a game", x, IllegalStateException.class, x::ballNumber);
        x.startGame();
        Check.equal("ballNumber in the next game", x.ballNumber(), 1);
    }

    private static void scoreAndExtraBalls() {
        PinballScorer x = new PinballScorer();
        Check.refuses("score without players", x, IndexOutOfBoundsException.class, () -> x.score(0));
        Check.refuses("extraBalls without players", x, IndexOutOfBoundsException.class, () -> x.extraBalls(0));
        x.addPlayer();
        x.addPlayer();
        for (int wrong : new int[] {-1, 2, 3, 4, Integer.MAX_VALUE, Integer.MIN_VALUE}) {
            Check.refuses("score " + wrong, x, IndexOutOfBoundsException.class, () -> x.score(wrong));
            Check.refuses("extraBalls " + wrong, x, IndexOutOfBoundsException.class, () -> x.extraBalls(wrong));
        }
        Check.equal("score before a game", x.score(1), 0);
        x.startGame();
        Check.lose(x);
        Check.clearBank(x);
        Check.clearBank(x);
        Check.equal("scores in the game", x.score(0) + "/" + x.score(1), "0/2000");
        Check.equal("extra balls in the game", x.extraBalls(0) + "/" + x.extraBalls(1), "0/1");
        x.drain();
        Check.equal("the bonus is in the score", x.score(1), 3600);
        x.quitGame();
        Check.equal("the latest game's score", x.score(1), 3600);
        x.startGame();
        Check.equal("the next game's score", x.score(1), 0);
    }

    private static void ranks() {
        PinballScorer x = new PinballScorer();
        Check.refuses("playerAtRank without players", x, NoSuchElementException.class, () -> x.playerAtRank(0));
        Check.times(4, x::addPlayer);
        Check.refuses("playerAtRank(-1)", x, NoSuchElementException.class, () -> x.playerAtRank(-1));
        Check.refuses("playerAtRank(4)", x, NoSuchElementException.class, () -> x.playerAtRank(4));
        Check.equal("ranks by index", ranking(x), "0123");
        x.startGame();
        Check.lose(x);
        x.hitLane(0);
        Check.lose(x);
        x.hitTarget(0);
        Check.times(2, x::drain);
        x.hitLane(0);
        Check.equal("ranks by score, then by index", ranking(x), "2130");
        PinballScorer y = Check.started(3);
        Check.times(5, () -> y.hitTarget(0));
        Check.times(13, () -> y.hitBumper(0));
        Check.times(2, () -> y.hitLane(0));
        Check.times(4, () -> y.hitTarget(0));
        y.drain();
        Check.equal("2000 by hits and bonus", y.score(0), 2000);
        Check.clearBank(y);
        Check.clearBank(y);
        Check.equal("2000 with an extra ball", y.score(1) + "/" + y.extraBalls(1), "2000/1");
        Check.equal("ranks by extra balls", ranking(y), "102");
    }

    private static String ranking(PinballScorer x) {
        StringBuilder text = new StringBuilder();
        for (int rank = 0; rank < x.playerCount(); rank++) {
            text.append(x.playerAtRank(rank));
        }
        return text.toString();
    }
}
