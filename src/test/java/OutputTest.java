/** Promises 46 to 48: the output text. */
public final class OutputTest {
    public static void main(String[] args) {
        renderBall();
        renderRecords();
        outputAt();
        Check.finish();
    }

    private static void renderBall() {
        PinballScorer x = Check.withPlayers(1);
        Check.refuses("renderBall without a game", x, IllegalStateException.class, x::renderBall);
        x.startGame();
        Check.equal("a new ball", Check.output(x, x::renderBall), "x1 .... |||||");
        Check.equal("its length", x.renderBall(), 13);
        Check.clearLanes(x);
        x.hitLane(0);
        x.hitLane(3);
        x.hitTarget(0);
        x.hitTarget(3);
        x.nudge(3);
        x.nudge(3);
        Check.equal("a played ball", Check.output(x, x::renderBall), "x2 *..* _||_|!");
        x.nudge(3);
        x.nudge(3);
        Check.equal("two warnings", Check.output(x, x::renderBall), "x2 *..* _||_|!!");
        Check.tilt(x);
        Check.equal("tilted", Check.output(x, x::renderBall), "x2 *..* _||_|!!!T");
        Check.equal("its length", x.renderBall(), 17);
        Check.equal("the next ball's text", nextBall(x), "x1 .... |||||");
        Check.equal("has replaced the longer one", Check.currentOutput(x), "x1 .... |||||");
        x.quitGame();
        Check.fails("renderBall after the game", IllegalStateException.class, x::renderBall);
        Check.equal("leaves the text", Check.currentOutput(x), "x1 .... |||||");
    }

    private static String nextBall(PinballScorer x) {
        x.drain();
        return Check.output(x, x::renderBall);
    }

    private static void renderRecords() {
        PinballScorer x = Check.started(2);
        x.renderBall();
        Check.equal("no records", x.renderRecords(), 0);
        Check.equal("an empty text", Check.currentOutput(x), "");
        x.hitLane(0);
        Check.lose(x);
        x.hitTarget(0);
        Check.lose(x);
        Check.times(4, () -> {
            Check.lose(x);
            return 0;
        });
        Check.equal("two records", Check.output(x, x::renderRecords), "300@1p1,100@1p0");
        Check.equal("its length", x.renderRecords(), 15);
        x.startGame();
        Check.times(6, () -> {
            Check.lose(x);
            return 0;
        });
        Check.equal("four records", Check.output(x, x::renderRecords), "300@1p1,100@1p0,0@2p0,0@2p1");
    }

    private static void outputAt() {
        PinballScorer x = Check.started(1);
        Check.fails("outputAt of the empty text", IndexOutOfBoundsException.class, () -> x.outputAt(0));
        x.renderBall();
        Check.equal("the first", x.outputAt(0), 'x');
        Check.equal("the last", x.outputAt(12), '|');
        for (int wrong : new int[] {-1, 13, Integer.MAX_VALUE, Integer.MIN_VALUE}) {
            Check.fails("outputAt " + wrong, IndexOutOfBoundsException.class, () -> x.outputAt(wrong));
        }
        x.hitLane(0);
        Check.equal("the text stays until it is replaced", Check.currentOutput(x), "x1 .... |||||");
    }
}
