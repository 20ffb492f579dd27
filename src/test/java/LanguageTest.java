import java.io.IOException;
import java.lang.reflect.Constructor;
import java.lang.reflect.Field;
import java.lang.reflect.Method;
import java.lang.reflect.Modifier;
import java.nio.file.Files;
import java.nio.file.Path;
import java.util.Arrays;
import java.util.Set;
import java.util.TreeSet;
import java.util.regex.Matcher;
import java.util.regex.Pattern;

/** The class's face, and those rules of LANGUAGE.md that can be read off the class and its text. */
public final class LanguageTest {
    private static final Path SOURCE = Path.of("src/main/java/WhoseShip.java");
    private static final String[] FACE = {
        "int type(int)", "int clear()", "int port()", "int place(int,int)", "int part(int,int)",
        "int inPlace(int,int)", "int ship(int,int)", "int is(int,int)", "int now(int)",
        "int replace(int,int)", "int fresh(int)", "int build()", "int year()", "int undo()",
        "int twins(int)", "int becomes(int,int,int,int)", "int stays(int,int)", "int share(int,int,int)",
        "int decides(int,int)", "long thief(int,int,int)", "int saw(int,int)", "int forget()",
        "int mayBe()", "int leastSeen(int)", "int repairs(int,int,int)", "int rate(int,int)",
        "int keep(int)", "int back(int)", "int count(int)", "long trace()"};
    private static final String[] CONSTANTS = {"BAD", "STATE", "FULL", "NONE", "NO"};
    private static final String[] FORBIDDEN = {
        "throw", "throws", "try", "catch", "synchronized", "assert", "import", "package", "->", "::",
        "[A-Za-z]+Exact", "Random", "Thread", "System\\.(?!arraycopy)", "hashCode", "toString"};
    private static int wrong = 0;

    private static void rule(boolean kept, String rule) {
        if (!kept) {
            wrong++;
            System.out.println("not kept: " + rule);
        }
    }

    public static void main(String[] args) throws IOException {
        Set<String> names = new TreeSet<>();
        face(names);
        for (Class<?> inside : WhoseShip.class.getDeclaredClasses()) {
            insideClass(inside, names);
        }
        rule(WhoseShip.class.getDeclaredClasses().length + 1 <= 12, "at most some twelve classes");
        source(Files.readString(SOURCE));
        System.out.println(wrong == 0 ? "the language is kept" : wrong + " rules are not kept");
        if (wrong != 0) {
            System.exit(1);
        }
    }

    private static String signature(Method method) {
        StringBuilder b = new StringBuilder();
        for (Class<?> type : method.getParameterTypes()) {
            b.append(b.length() == 0 ? "" : ",").append(type.getSimpleName());
        }
        return method.getReturnType().getSimpleName() + " " + method.getName() + "(" + b + ")";
    }

    private static void face(Set<String> names) {
        Set<String> methods = new TreeSet<>();
        for (Method method : WhoseShip.class.getDeclaredMethods()) {
            if (Modifier.isPublic(method.getModifiers())) {
                methods.add(signature(method));
                names.add(method.getName());
                rule(!Modifier.isStatic(method.getModifiers()), method + " is not static");
            }
        }
        rule(methods.equals(new TreeSet<>(Arrays.asList(FACE))), "the face's methods: " + methods);
        Set<String> constants = new TreeSet<>();
        for (Field field : WhoseShip.class.getDeclaredFields()) {
            if (Modifier.isPublic(field.getModifiers())) {
                constants.add(field.getName());
            }
        }
        rule(constants.equals(new TreeSet<>(Arrays.asList(CONSTANTS))), "the face's constants: " + constants);
        Constructor<?>[] made = WhoseShip.class.getDeclaredConstructors();
        rule(made.length == 1 && Modifier.isPublic(made[0].getModifiers()) && made[0].getParameterCount() == 0,
            "one public constructor");
        rule(Modifier.isFinal(WhoseShip.class.getModifiers()), "the class is final");
        privateMembers(WhoseShip.class, names, true);
    }

    private static void insideClass(Class<?> inside, Set<String> names) {
        rule(Modifier.isStatic(inside.getModifiers()), inside + " is static");
        rule(!Modifier.isPublic(inside.getModifiers()) && !Modifier.isProtected(inside.getModifiers()),
            inside + " is private or package-visible");
        privateMembers(inside, names, false);
    }

    private static void privateMembers(Class<?> type, Set<String> names, boolean mayBePublic) {
        int fields = 0;
        for (Field field : type.getDeclaredFields()) {
            int is = field.getModifiers();
            rule(Modifier.isPrivate(is) || mayBePublic && Modifier.isPublic(is), field + " is private");
            rule(!Modifier.isStatic(is) || Modifier.isFinal(is), field + " is final");
            fields += Modifier.isStatic(is) ? 0 : 1;
        }
        rule(fields <= 20, type + " has at most some twenty fields");
        for (Method method : type.getDeclaredMethods()) {
            int is = method.getModifiers();
            rule(Modifier.isPrivate(is) || mayBePublic && Modifier.isPublic(is), method + " is private");
            rule(method.getParameterCount() <= 7, method + " has at most seven parameters");
            if (Modifier.isPrivate(is)) {
                rule(!names.contains(method.getName()), method + " bears no public name");
            }
        }
    }

    private static void source(String text) {
        String code = text.replaceAll("(?s)/\\*.*?\\*/", "").replaceAll("//[^\n]*", "");
        for (String word : FORBIDDEN) {
            boolean wordy = Character.isLetter(word.charAt(0));
            Matcher matcher = Pattern.compile(wordy ? "\\b" + word : word).matcher(code);
            boolean whole = false;
            while (matcher.find()) {
                int end = matcher.end();
                whole |= !wordy || end >= code.length() || !Character.isLetterOrDigit(code.charAt(end))
                    || word.startsWith("System");
            }
            rule(!whole, "no '" + word + "' in the source");
        }
        for (int i = 0; i < text.length(); i++) {
            rule(text.charAt(i) < 128, "sign " + (int) text.charAt(i) + " at " + i);
        }
        rule(!Pattern.compile("while \\(true\\)|for \\(;;\\)").matcher(code).find(), "every loop has an end");
        methodLengths(code);
    }

    private static void methodLengths(String code) {
        int begun = 0;
        String[] lines = code.split("\n");
        for (int i = 0; i < lines.length; i++) {
            if (lines[i].matches(" {4}( {4})?(public|private) .*\\) \\{")) {
                begun = i;
            } else if (lines[i].matches(" {4}( {4})?\\}")) {
                rule(!lines[begun].contains("(") || i - begun < 60 || lines[begun].contains("class"),
                    "a method of at most some sixty lines: " + lines[begun].trim());
                begun = i;
            }
        }
    }
}
