import java.io.IOException;
import java.lang.reflect.Field;
import java.lang.reflect.Member;
import java.lang.reflect.Method;
import java.lang.reflect.Modifier;
import java.nio.file.Files;
import java.nio.file.Path;
import java.util.Set;
import java.util.TreeSet;
import java.util.regex.Pattern;

/** The face of the class, and some of the rules of LANGUAGE.md that can be seen by words alone. */
public final class LanguageTest {
    private static final Probe P = new Probe();
    private static final String FACE = "arm(int,int):boolean begin(int):boolean check(int):int count(int):int end(int):int"
        + " event(int,int):int fault(int):int feed(int,int,int,int,int):int get(int):int grammar():int image(int):int load(int):int"
        + " match(int,int):int peak():int place():int program(int,int):int put(int,int):boolean rule(int,int):int run(int):int"
        + " set(int,int):int store(int,int):boolean subject():int";

    public static void main(String[] args) throws IOException {
        face();
        state();
        words(Files.readString(Path.of("src/main/java/MatchHouse.java")));
        P.finish();
    }

    private static boolean isSeen(Member member) {
        return !Modifier.isPrivate(member.getModifiers()) && !member.isSynthetic();
    }

    private static void face() {
        Set<String> methods = new TreeSet<>();
        for (Method method : MatchHouse.class.getDeclaredMethods()) {
            if (isSeen(method)) {
                StringBuilder text = new StringBuilder(method.getName()).append('(');
                for (Class<?> type : method.getParameterTypes()) {
                    text.append(text.charAt(text.length() - 1) == '(' ? "" : ",").append(type);
                }
                methods.add(text.append("):").append(method.getReturnType()).toString());
                P.due("public " + method, Modifier.isPublic(method.getModifiers()), true);
                P.due("static " + method, Modifier.isStatic(method.getModifiers()), false);
            }
        }
        P.due("the methods", String.join(" ", methods), FACE);
        for (Field field : MatchHouse.class.getDeclaredFields()) {
            P.due("seen " + field, isSeen(field), field.getName().equals("NONE"));
        }
        P.due("constructors", MatchHouse.class.getDeclaredConstructors().length, 1);
        P.due("final", Modifier.isFinal(MatchHouse.class.getModifiers()), true);
    }

    private static void state() {
        int classes = 1;
        for (Class<?> inner : MatchHouse.class.getDeclaredClasses()) {
            classes++;
            P.due("static " + inner, Modifier.isStatic(inner.getModifiers()), true);
            fields(inner);
            for (Method method : inner.getDeclaredMethods()) {
                boolean named = FACE.matches(".*\\b" + method.getName() + "\\(.*");
                P.due("bears a public name " + method, named, false);
            }
        }
        P.due("some twelve classes", classes <= 12, true);
        fields(MatchHouse.class);
    }

    private static void fields(Class<?> of) {
        int fields = 0;
        for (Field field : of.getDeclaredFields()) {
            boolean isStatic = Modifier.isStatic(field.getModifiers());
            fields += isStatic ? 0 : 1;
            P.due("a static field that is not final " + field, isStatic && !Modifier.isFinal(field.getModifiers()), false);
        }
        P.due("some twenty fields in " + of + ": " + fields, fields <= 22, true);
    }

    private static void words(String source) {
        String code = source.replaceAll("(?s)/\\*.*?\\*/", "").replaceAll("//[^\n]*", "");
        String[] refused = {"\\bthrow\\b", "\\btry\\b", "\\bcatch\\b", "\\bsynchronized\\b", "\\bassert\\b", "->", "::", "\\bString\\b",
            "Exact\\b", "\\bpackage\\b", "\\bLong\\.", "while \\(true\\)", "for \\(;;\\)", "\\bhashCode\\b", "\\btoString\\b"};
        for (String word : refused) {
            P.due("the source has " + word, Pattern.compile(word).matcher(code).find(), false);
        }
        StringBuilder imports = new StringBuilder();
        for (String line : code.split("\n")) {
            imports.append(line.startsWith("import") ? line : "");
        }
        P.due("imports", imports.toString(), "import java.util.Arrays;");
    }
}
