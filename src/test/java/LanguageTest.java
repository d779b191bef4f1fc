import java.io.IOException;
import java.lang.reflect.Constructor;
import java.lang.reflect.Field;
import java.lang.reflect.Method;
import java.lang.reflect.Modifier;
import java.nio.file.Files;
import java.nio.file.Path;
import java.util.ArrayList;
import java.util.Arrays;
import java.util.HashSet;
import java.util.List;
import java.util.Set;

/** The public face of the document, and those rules of LANGUAGE.md that can be read off the text or the class. */
public final class LanguageTest {
    private static final String[] FACE = {
        "int grain(int, int, int, int) [IllegalArgumentException, IllegalStateException]",
        "int moon(int, int, int) [IllegalArgumentException, IllegalStateException]",
        "int flatness(int) [IllegalArgumentException]",
        "void bounds(int, int, int) [IllegalArgumentException]",
        "int tick(int) [IllegalArgumentException, IllegalStateException]",
        "int frame() [IllegalStateException]",
        "int claim(int, int, int, int) [IndexOutOfBoundsException, IllegalArgumentException, IllegalStateException]",
        "int now() []",
        "int told(int, int) [IndexOutOfBoundsException, IllegalArgumentException]",
        "int angle(int) [IndexOutOfBoundsException]",
        "int speed(int) [IllegalArgumentException]",
        "int count(int) [IllegalArgumentException]",
        "int mass(int) [IllegalArgumentException]",
        "int sum(int) [IllegalArgumentException]",
        "long momentum(int) [IllegalArgumentException]",
        "long momentumByLanes() []",
        "int resonance(int, int) [IndexOutOfBoundsException, IllegalArgumentException]",
        "int gap(int, int) [IndexOutOfBoundsException, IllegalArgumentException]",
        "int gaps() []",
        "int framed(int, int) [IndexOutOfBoundsException, IllegalArgumentException]",
        "boolean holds(int, int) [IndexOutOfBoundsException]",
        "int disputes(int) [IndexOutOfBoundsException]"};
    private static final String[] RULED_OUT = {"import ", "package ", "try ", "catch", "finally", "->", "::",
        "synchronized", "assert", "Exact(", "Object ", "float", "double", "String.", "System.", "Thread", "Random",
        "@Override", "toString", "hashCode", "equals("};
    private static final int MOST_LINES_OF_A_METHOD = 60;

    public static void main(String[] args) throws IOException {
        faceOfTheDocument();
        nothingElseIsSeen();
        List<String> lines = Files.readAllLines(Path.of("src/main/java/RingHerd.java"));
        for (String line : lines) {
            lineKeepsTheRules(line.strip());
        }
        methodsAreShort(lines);
        Check.end("LanguageTest");
    }

    private static void faceOfTheDocument() {
        Set<String> due = new HashSet<>(Arrays.asList(FACE));
        for (Method method : RingHerd.class.getDeclaredMethods()) {
            if (Modifier.isPublic(method.getModifiers())) {
                String told = method.getReturnType().getSimpleName() + " " + method.getName()
                    + names(method.getParameterTypes()).replace('[', '(').replace(']', ')') + " "
                    + names(method.getExceptionTypes());
                Check.due("in the face: " + told, due.remove(told), true);
            }
        }
        Check.due("what the face lacks", due.toString(), "[]");
    }

    private static String names(Class<?>[] types) {
        List<String> names = new ArrayList<>();
        for (Class<?> type : types) {
            names.add(type.getSimpleName());
        }
        return names.toString();
    }

    private static void nothingElseIsSeen() {
        int face = Modifier.PUBLIC | Modifier.FINAL;
        Check.due("the class is public and final", RingHerd.class.getModifiers() & face, face);
        Set<String> publicNames = new HashSet<>();
        for (String method : FACE) {
            publicNames.add(method.substring(method.indexOf(' ') + 1, method.indexOf('(')));
        }
        for (Method method : RingHerd.class.getDeclaredMethods()) {
            boolean hidden = Modifier.isPrivate(method.getModifiers());
            Check.due(method + " is private or of the face", hidden != publicNames.contains(method.getName()), true);
        }
        for (Field field : RingHerd.class.getDeclaredFields()) {
            boolean none = field.getName().equals("NONE");
            Check.due(field + " is private or NONE", Modifier.isPrivate(field.getModifiers()) != none, true);
            boolean free = Modifier.isStatic(field.getModifiers()) && !Modifier.isFinal(field.getModifiers());
            Check.due(field + " is no static that changes", free, false);
        }
        for (Constructor<?> constructor : RingHerd.class.getDeclaredConstructors()) {
            Check.due("the only constructor", constructor.toString(), "public RingHerd()");
        }
        for (Class<?> inside : RingHerd.class.getDeclaredClasses()) {
            Check.due(inside + " is static", Modifier.isStatic(inside.getModifiers()), true);
            Check.due(inside + " is hidden", Modifier.isPublic(inside.getModifiers()), false);
            int fields = inside.getDeclaredFields().length;
            Check.due(inside + " has a few fields", fields <= 20, true);
        }
        Check.due("a few classes", RingHerd.class.getDeclaredClasses().length < 12, true);
    }

    private static void lineKeepsTheRules(String line) {
        for (char sign : line.toCharArray()) {
            Check.due("signs of: " + line, sign <= 127, true);
        }
        if (line.startsWith("//") || line.startsWith("*") || line.startsWith("/*")) {
            return;
        }
        for (String word : RULED_OUT) {
            Check.due("'" + word + "' in: " + line, line.contains(word), false);
        }
        Check.due("a text joined by + in: " + line, line.contains("\" +") || line.contains("+ \""), false);
        if (line.contains("throw ")) {
            boolean plain = line.matches("throw new (IllegalArgument|IllegalState|IndexOutOfBounds)Exception"
                + "\\(\"[^\"]*\"\\);");
            Check.due("a plain throw in: " + line, plain, true);
        }
    }

    private static void methodsAreShort(List<String> lines) {
        int start = -1;
        for (int i = 0; i < lines.size(); i++) {
            String line = lines.get(i);
            if (line.matches("(    |        )\\S.*\\).*\\{") && !line.matches("\\s*(if|for|while|switch|do|else).*")) {
                start = i;
            }
            if (line.matches("(    |        )}") && start >= 0) {
                Check.due("short: " + lines.get(start).strip(), i - start <= MOST_LINES_OF_A_METHOD, true);
            }
        }
    }
}
