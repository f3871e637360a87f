import java.io.IOException;
import java.lang.reflect.Field;
import java.lang.reflect.Member;
import java.lang.reflect.Method;
import java.lang.reflect.Modifier;
import java.nio.file.Files;
import java.nio.file.Path;
import java.util.ArrayList;
import java.util.List;
import java.util.TreeSet;
import java.util.regex.Matcher;
import java.util.regex.Pattern;

/** The face is the document's, and the source has nothing that LANGUAGE.md leaves out by name. */
public final class FaceTest {
    private static final String FACE = "feed(IIIII)I back(I)I read()I place()I pilgrim(II)I moves()I kneel(I)Z rise(I)Z board(I)Z"
            + " oil(I)I run(I)I undo()Z arrives(I)I still()I highest(II)I first(I)I means(III)I oiled(II)I doubted(II)I"
            + " bestStart(III)I meet(II)I most(I)I lowest(I)I bestTwo(II)I exchange(III)I rank(I)I share(IZ)I there(I)I"
            + " kneelers(III)I rests(II)I tell(III)I forget()I secret(II)I off(I)I hold(I)Z restore(I)Z count(I)I";

    private static final String LEFT_OUT = "\\b(throw|throws|try|catch|synchronized|assert|import|package|volatile|protected|native|var)\\b"
            + "|new\\s+\\w+\\s*\\([^)]*\\)\\s*\\{|->|::|values\\(\\)|System\\.(?!arraycopy)\\w+|\\w+Exact";

    public static void main(String[] args) throws IOException {
        Check check = new Check();
        check.about("face");
        TreeSet<String> found = new TreeSet<>();
        for (Method m : KneeStair.class.getDeclaredMethods()) {
            if (Modifier.isPublic(m.getModifiers())) {
                found.add(m.getName() + java.lang.invoke.MethodType.methodType(m.getReturnType(), m.getParameterTypes()).toMethodDescriptorString());
            } else {
                onlyPrivate(check, m);
            }
        }
        TreeSet<String> due = new TreeSet<>(java.util.Arrays.asList(FACE.split(" ")));
        check.due("public methods " + found, found.equals(due), true);
        for (var field : KneeStair.class.getDeclaredFields()) {
            if (!field.getName().equals("NONE")) {
                onlyPrivate(check, field);
            }
        }
        check.due("constructors", KneeStair.class.getConstructors().length, 1);
        check.due("final", Modifier.isFinal(KneeStair.class.getModifiers()), true);
        noNameTwice(check);
        smallEnough(check);
        source(check);
        check.end();
    }

    private static void onlyPrivate(Check check, Member member) {
        check.due(member.getName() + " is private", Modifier.isPrivate(member.getModifiers()) || member.isSynthetic(), true);
    }

    private static void noNameTwice(Check check) {
        TreeSet<String> names = new TreeSet<>();
        for (String method : FACE.split(" ")) {
            names.add(method.substring(0, method.indexOf('(')));
        }
        for (Class<?> inside : KneeStair.class.getDeclaredClasses()) {
            check.due(inside.getName() + " is static", Modifier.isStatic(inside.getModifiers()), true);
            for (Method m : inside.getDeclaredMethods()) {
                check.due(inside.getName() + "." + m.getName() + " bears a public name", names.contains(m.getName()), false);
            }
        }
    }

    private static void smallEnough(Check check) throws IOException {
        check.about("rules 5 and 11");
        ArrayList<Class<?>> classes = new ArrayList<>(List.of(KneeStair.class.getDeclaredClasses()));
        classes.add(KneeStair.class);
        check.due("twelve classes at most", classes.size() <= 12, true);
        for (Class<?> one : classes) {
            int fields = 0;
            for (Field field : one.getDeclaredFields()) {
                boolean isStatic = Modifier.isStatic(field.getModifiers());
                check.due(field + " is final, if static", !isStatic || Modifier.isFinal(field.getModifiers()), true);
                fields += isStatic ? 0 : 1;
            }
            check.due(one.getName() + ": twenty fields at most", fields <= 20, true);
            for (Method m : one.getDeclaredMethods()) {
                check.due(m + ": seven parameters at most", m.getParameterCount() <= 7, true);
            }
        }
        shortMethods(check);
    }

    private static void shortMethods(Check check) throws IOException {
        String end = "";
        int begun = 0;
        int line = 0;
        for (String text : Files.readAllLines(Path.of("src/main/java/KneeStair.java"))) {
            line++;
            if (begun == 0 && text.matches(" +\\w.*\\) \\{")) {
                begun = line;
                end = text.replaceAll("\\w.*", "}");
            } else if (begun != 0 && text.equals(end)) {
                check.due("sixty lines at most, from line " + begun, line - begun <= 60, true);
                begun = 0;
            }
        }
        check.due("each method ends", begun, 0);
    }

    private static void source(Check check) throws IOException {
        String source = Files.readString(Path.of("src/main/java/KneeStair.java"));
        String code = source.replaceAll("(?s)/\\*.*?\\*/", "").replaceAll("//[^\n]*", "").replaceAll("\"[^\"]*\"", "\"\"");
        Matcher m = Pattern.compile(LEFT_OUT).matcher(code);
        check.due("left out: " + (m.find() ? m.group() : ""), m.reset().find(), false);
        check.due("signs of 1 to 127", source.chars().allMatch(c -> c >= 1 && c <= 127), true);
    }
}
