import java.io.IOException;
import java.lang.reflect.Constructor;
import java.lang.reflect.Field;
import java.lang.reflect.Method;
import java.lang.reflect.Modifier;
import java.nio.file.Files;
import java.nio.file.Path;
import java.util.ArrayList;
import java.util.Collections;
import java.util.List;
import java.util.regex.Matcher;
import java.util.regex.Pattern;

/** The public face as the document has it, and the rules of LANGUAGE.md that a text search can see. */
final class FaceTest {
    private static final Tester T = new Tester("FaceTest");

    public static void main(String[] args) throws IOException {
        face();
        rules(Files.readString(Path.of("src/main/java/SeriesFund.java")));
        T.end();
    }

    private static void face() throws IOException {
        List<String> want = new ArrayList<>();
        Matcher m = Pattern.compile("^    (public (?!final|static|SeriesFund).*);$", Pattern.MULTILINE)
                .matcher(Files.readString(Path.of("../shared/DOC.md")));
        while (m.find()) {
            want.add(m.group(1).replaceAll("(int|long) [a-z]+([,)])", "$1$2"));
        }
        List<String> got = new ArrayList<>();
        for (Method method : SeriesFund.class.getDeclaredMethods()) {
            if (!Modifier.isPrivate(method.getModifiers())) {
                got.add(signature(method));
            }
        }
        Collections.sort(want);
        Collections.sort(got);
        T.due("methods of the document", want.size(), 43);
        T.due("methods", got, want);
        int modifiers = SeriesFund.class.getModifiers();
        T.due("public and final", Modifier.isPublic(modifiers) && Modifier.isFinal(modifiers), true);
        Constructor<?>[] made = SeriesFund.class.getDeclaredConstructors();
        T.due("constructors", made.length + " " + made[0].toGenericString(), "1 public SeriesFund()");
        for (Field field : SeriesFund.class.getDeclaredFields()) {
            boolean constant = field.getName().equals("NONE");
            T.due("field " + field.getName(), Modifier.isPrivate(field.getModifiers()), !constant);
        }
        for (Class<?> inside : SeriesFund.class.getDeclaredClasses()) {
            T.due("class " + inside.getName(), Modifier.isStatic(inside.getModifiers()), true);
            for (Method method : inside.getDeclaredMethods()) {
                T.due("name " + method.getName(), want.stream().anyMatch(w -> w.contains(" " + method.getName() + "(")),
                        false);
            }
        }
    }

    private static String signature(Method method) {
        StringBuilder out = new StringBuilder("public ").append(method.getReturnType().getName()).append(' ')
                .append(method.getName()).append('(');
        for (Class<?> type : method.getParameterTypes()) {
            out.append(out.charAt(out.length() - 1) == '(' ? "" : ", ").append(type.getName());
        }
        out.append(')');
        String before = " throws ";
        for (Class<?> thrown : method.getExceptionTypes()) {
            out.append(before).append(thrown.getSimpleName());
            before = ", ";
        }
        return out.toString();
    }

    private static void rules(String source) {
        String code = source.replaceAll("(?s)/\\*.*?\\*/", "").replaceAll("//[^\n]*", "");
        String[] banned = {"->", "::", "Exact(", "finally", "synchronized", "assert ", "catch", "System.out",
            "Integer.", "Long.", "StringBuilder", "protected ", "package ", "double[", "this::", "\" +", "+ \""};
        for (String word : banned) {
            T.due("the source has " + word, code.contains(word), false);
        }
        T.due("imports", code.lines().filter(l -> l.startsWith("import")).count(), 1);
        T.due("few classes", SeriesFund.class.getDeclaredClasses().length <= 11, true);
        int length = 0;
        for (String line : code.split("\n")) {
            length = line.matches("    (    )?[a-zA-Z].*\\{") ? 0 : length + 1;
            boolean ends = line.equals("    }") || line.equals("        }");
            T.due("methods stay short", !ends || length <= 60 || line.equals("    }"), true);
        }
    }
}
