import java.io.IOException;
import java.lang.reflect.Method;
import java.lang.reflect.Modifier;
import java.nio.file.Files;
import java.nio.file.Path;
import java.util.regex.Matcher;
import java.util.regex.Pattern;

/** README.md's example answers as it says, and names every method. */
public final class ReadmeTest {
    private static final Pattern PUT = Pattern.compile("put\\(stair, \"(.*)\"\\);");
    private static final Pattern CALL = Pattern.compile("stair\\.(\\w+)\\((.*)\\); +// (-?\\w+)(:.*)?");

    // README.md shows this method, line by line.
    static void put(KneeStair stair, String text) {
        for (int from = 0; from < text.length(); from += 20) {
            int[] words = new int[5];
            for (int i = 0; i < 20; i++) {
                int sign = from + i < text.length() ? text.charAt(from + i) : ' ';
                words[i / 4] = words[i / 4] << 8 | sign;
            }
            stair.feed(words[0], words[1], words[2], words[3], words[4]);
        }
        stair.back((20 - text.length() % 20) % 20);
    }

    private static String[] javaBlocks(String readme) {
        return Pattern.compile("(?s)```java\n(.*?)```").matcher(readme).results().map(r -> r.group(1)).toArray(String[]::new);
    }

    private static Method method(String name) {
        for (Method m : KneeStair.class.getDeclaredMethods()) {
            if (m.getName().equals(name) && Modifier.isPublic(m.getModifiers())) {
                return m;
            }
        }
        throw new IllegalStateException("no method " + name);
    }

    private static String answer(KneeStair stair, String name, String arguments) throws ReflectiveOperationException {
        String[] parts = arguments.isEmpty() ? new String[0] : arguments.split(", ");
        Object[] given = new Object[parts.length];
        for (int i = 0; i < parts.length; i++) {
            given[i] = Integer.parseInt(parts[i]);
        }
        return method(name).invoke(stair, given).toString();
    }

    private static void example(Check check, String block) throws ReflectiveOperationException {
        check.about("the example");
        KneeStair stair = new KneeStair();
        int calls = 0;
        for (String line : block.split("\n")) {
            Matcher put = PUT.matcher(line);
            Matcher call = CALL.matcher(line);
            if (put.matches()) {
                put(stair, put.group(1));
            } else if (call.matches()) {
                String answer = answer(stair, call.group(1), call.group(2));
                check.due(line + ", answered " + answer, answer.equals(call.group(3)), true);
                calls++;
            } else {
                check.due(line, line.equals("KneeStair stair = new KneeStair();"), true);
            }
        }
        check.due("calls with an answer", calls, 20);
    }

    public static void main(String[] args) throws IOException, ReflectiveOperationException {
        Check check = new Check();
        check.about("README.md");
        String readme = Files.readString(Path.of("README.md"));
        String[] blocks = javaBlocks(readme);
        check.due("blocks of Java", blocks.length, 2);
        String source = Files.readString(Path.of("src/test/java/ReadmeTest.java")).replace("\n    ", "\n");
        check.due("put, as here", source.contains(blocks[0]), true);
        for (Method m : KneeStair.class.getDeclaredMethods()) {
            boolean isNamed = readme.contains("`" + m.getName() + "`");
            check.due(m.getName() + " is named", isNamed || !Modifier.isPublic(m.getModifiers()), true);
        }
        example(check, blocks[1]);
        check.end();
    }
}
