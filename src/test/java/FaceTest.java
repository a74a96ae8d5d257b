import java.io.IOException;
import java.lang.reflect.Constructor;
import java.lang.reflect.Field;
import java.lang.reflect.Method;
import java.lang.reflect.Modifier;
import java.nio.file.Files;
import java.nio.file.Path;
import java.util.Set;
import java.util.TreeSet;

/** The class has the face that ../shared/DOC.md shows, and no more. */
public final class FaceTest {
    private static final Path DOC = Path.of("../shared/DOC.md");

    public static void main(String[] args) throws IOException {
        Check.equal("the public methods", publicMethods(), documentedMethods());
        modifiers();
        noOtherMembers();
        Check.finish();
    }

    private static Set<String> documentedMethods() throws IOException {
        Set<String> lines = new TreeSet<>();
        boolean isFace = false;
        for (String line : Files.readAllLines(DOC)) {
            if (line.startsWith("public final class PinballScorer")) {
                isFace = true;
            } else if (line.equals("}")) {
                isFace = false;
            } else if (isFace && line.contains("(") && !line.contains("public PinballScorer(")) {
                lines.add(line.strip().replace(";", "").replaceAll("(int|char) \\w+([,)])", "$1$2"));
            }
        }
        return lines;
    }

    private static Set<String> publicMethods() {
        Set<String> lines = new TreeSet<>();
        for (Method method : PinballScorer.class.getDeclaredMethods()) {
            if (Modifier.isPublic(method.getModifiers())) {
                lines.add("public " + method.getReturnType() + " " + method.getName()
                        + "(" + names(method.getParameterTypes()) + ")"
                        + (method.getExceptionTypes().length == 0 ? "" : " throws ")
                        + names(method.getExceptionTypes()));
            }
        }
        return lines;
    }

    private static String names(Class<?>[] types) {
        StringBuilder text = new StringBuilder();
        for (Class<?> type : types) {
            text.append(text.length() == 0 ? "" : ", ").append(type.getSimpleName());
        }
        return text.toString();
    }

    private static void modifiers() {
        int modifiers = PinballScorer.class.getModifiers();
        Check.equal("public", Modifier.isPublic(modifiers), true);
        Check.equal("final", Modifier.isFinal(modifiers), true);
        Constructor<?>[] constructors = PinballScorer.class.getDeclaredConstructors();
        Check.equal("constructors", constructors.length, 1);
        Check.equal("the constructor's parameters", constructors[0].getParameterCount(), 0);
        Check.equal("the public constructor", Modifier.isPublic(constructors[0].getModifiers()), true);
    }

    private static void noOtherMembers() {
        Set<String> publicNames = new TreeSet<>();
        for (Method method : PinballScorer.class.getMethods()) {
            publicNames.add(method.getName());
        }
        for (Method method : PinballScorer.class.getDeclaredMethods()) {
            boolean isPublic = Modifier.isPublic(method.getModifiers());
            Check.equal(method + " is public or private", isPublic || Modifier.isPrivate(method.getModifiers()), true);
            Check.equal(method + " has a name of its own", isPublic || !publicNames.contains(method.getName()), true);
        }
        for (Field field : PinballScorer.class.getDeclaredFields()) {
            Check.equal(field + " is private", Modifier.isPrivate(field.getModifiers()), true);
            boolean isShared = Modifier.isStatic(field.getModifiers());
            Check.equal(field + " is final if static", !isShared || Modifier.isFinal(field.getModifiers()), true);
        }
        for (Class<?> inside : PinballScorer.class.getDeclaredClasses()) {
            Check.equal(inside + " is static", Modifier.isStatic(inside.getModifiers()), true);
            Check.equal(inside + " is not public", Modifier.isPublic(inside.getModifiers()), false);
            for (Method method : inside.getDeclaredMethods()) {
                Check.equal(method + " has a name of its own", publicNames.contains(method.getName()), false);
            }
        }
    }
}
