import java.lang.reflect.InvocationTargetException;
import java.lang.reflect.Method;
import java.util.ArrayList;
import java.util.List;

/** Mixed runs of at most 512 calls, the same ones every time: the class must answer each call as the Model does. */
public final class ModelTest {
    private static final int RUNS = 700;
    private static final int CALLS = 512;
    private static final int[] WRONG = {-1, 3, 4, 5, 6, 51, Integer.MAX_VALUE, Integer.MIN_VALUE};
    private static final String[] WORDS =
            {"lane ", "bumper ", "target ", "nudge ", "lane ", "target ", "drain", "quit", "start", "player"};
    private static final List<Method> FACE = List.of(PinballScorer.class.getMethods()).stream()
            .filter(method -> method.getDeclaringClass() == PinballScorer.class)
            .sorted((one, other) -> one.getName().compareTo(other.getName())).toList();

    private final PinballScorer x = new PinballScorer();
    private final Model model = new Model();
    private final List<String> calls = new ArrayList<>();
    private final int run;
    private long seed;

    private ModelTest(int run) {
        this.run = run;
        seed = run;
    }

    public static void main(String[] args) throws ReflectiveOperationException {
        for (int run = 1; run <= RUNS; run++) {
            new ModelTest(run).play();
        }
        Check.finish();
    }

    private int next(int bound) {
        seed = seed * 6364136223846793005L + 1442695040888963407L;
        return (int) ((seed >>> 33) % bound);
    }

    /** Runs differ in players, and in how often balls drain and tilt: some see the milestone, some many games. */
    private void play() throws ReflectiveOperationException {
        int callsPerDrain = 2 + next(next(2) == 0 ? 30 : 300);
        int callsPerNudge = 2 + next(next(2) == 0 ? 10 : 300);
        int callsPerUndo = 10 + next(100);
        for (int i = next(5); i >= 0; i--) {
            call("addPlayer", 0, 0);
        }
        while (calls.size() < CALLS) {
            // The model is asked, not the object: each question to it would be one of its 512 calls.
            if (model.answer("isRunning", 0, 0).equals(false) && next(2) == 0) {
                call(model.answer("playerCount", 0, 0).equals(0) ? "addPlayer" : "startGame", 0, 0);
            } else if (next(callsPerDrain) == 0) {
                call("drain", 0, 0);
            } else if (next(callsPerNudge) == 0) {
                call("nudge", 1 + index(3), 0);
            } else if (next(callsPerUndo) == 0) {
                undo(1 + next(10));
            } else {
                step(next(100));
            }
        }
    }

    private void step(int choice) throws ReflectiveOperationException {
        if (choice < 25) {
            call("hitBumper", index(3), 0);
        } else if (choice < 45) {
            call("hitLane", index(4), 0);
        } else if (choice < 65) {
            call("hitTarget", index(5), 0);
        } else if (choice < 66) {
            script();
        } else {
            any(FACE.get(next(FACE.size())).getName());
        }
    }

    private void undo(int times) throws ReflectiveOperationException {
        for (int i = 0; i < times; i++) {
            call("undo", 0, 0);
        }
    }

    private int index(int count) {
        return next(25) == 0 ? WRONG[next(WRONG.length)] : next(count);
    }

    /** Any call of the face, but a game is seldom broken off: it could not grow old otherwise. */
    private void any(String method) throws ReflectiveOperationException {
        boolean isRare = method.equals("quitGame") || method.equals("restore");
        if (!isRare || next(4) == 0) {
            boolean isCharacter = method.equals("type") || method.equals("pointsOf");
            call(method, isCharacter ? character() : index(2 + next(4)), index(51));
        }
    }

    private int character() {
        return next(2) == 0 ? "lbtu".charAt(next(4)) : next(200);
    }

    private void script() throws ReflectiveOperationException {
        StringBuilder script = new StringBuilder();
        for (int i = next(7); i >= 0; i--) {
            String word = WORDS[next(next(5) == 0 ? WORDS.length : 7)];
            script.append(word).append(word.endsWith(" ") ? String.valueOf(next(next(6) == 0 ? 10 : 3)) : "");
            script.append(i > 0 ? ";" : "");
        }
        if (next(4) == 0) {
            script.setCharAt(next(script.length()), (char) (32 + next(95)));
        }
        script.setLength(next(8) == 0 ? next(script.length()) : script.length());
        for (char character : script.toString().toCharArray()) {
            call("type", character, 0);
        }
        call("runScript", 0, 0);
        call("errorPosition", 0, 0);
        call("failedCommand", 0, 0);
    }

    private void call(String name, int a, int b) throws ReflectiveOperationException {
        if (calls.size() >= CALLS) {
            return;
        }
        calls.add(name + "(" + a + ", " + b + ")");
        String answer = answer(name, a, b);
        Check.equal("run " + run + ", call " + calls.size() + ", " + calls.get(calls.size() - 1), answer,
                Check.answerOf(() -> model.answer(name, a, b)));
    }

    private String answer(String name, int a, int b) throws ReflectiveOperationException {
        for (Method method : FACE) {
            if (method.getName().equals(name)) {
                try {
                    return String.valueOf(method.invoke(x, arguments(method.getParameterTypes(), a, b)));
                } catch (InvocationTargetException e) {
                    return "throws " + e.getCause().getClass().getName();
                }
            }
        }
        return "no such method";
    }

    private static Object[] arguments(Class<?>[] types, int a, int b) {
        Object[] arguments = new Object[types.length];
        for (int i = 0; i < types.length; i++) {
            int number = i == 0 ? a : b;
            if (types[i] == char.class) {
                arguments[i] = (char) number;
            } else {
                arguments[i] = number;
            }
        }
        return arguments;
    }
}
