import java.io.IOException;
import java.lang.reflect.Constructor;
import java.lang.reflect.Field;
import java.lang.reflect.Method;
import java.lang.reflect.Modifier;
import java.nio.file.Files;
import java.nio.file.Path;
import java.util.HashSet;
import java.util.Set;
import java.util.regex.Matcher;
import java.util.regex.Pattern;

/** The face of the class, and rules of the language that can be seen in its text. */
public final class LanguageTest {
    private static final String[] FACE = {
        "int flight(1)", "int lock(3)", "int strength(1)", "int turn(1)", "int type(1)", "int clear(0)", "int read(0)",
        "int run(4)", "int undo(0)", "int of(2)", "int takes(5)", "int at(6)", "int lead(3)", "int worth(2)",
        "int strong(4)", "int hire(5)", "int dark(4)", "int waits(5)", "int share(4)", "int key(3)", "int reading(2)",
        "int forget(0)", "int leads(3)", "int drawn(4)", "long part(1)", "int image(1)", "int from(1)",
        "int status(1)", "int count(1)", "long digest(0)"};

    public static void main(String[] args) throws IOException {
        face();
        nested();
        words();
        Check.end();
    }

    private static void face() {
        Set<String> due = new HashSet<>(Set.of(FACE));
        Set<String> names = new HashSet<>();
        for (String call : FACE) {
            names.add(call.substring(call.indexOf(' ') + 1, call.indexOf('(')));
        }
        for (Method method : LockFlight.class.getDeclaredMethods()) {
            String call = method.getReturnType() + " " + method.getName() + "(" + method.getParameterCount() + ")";
            if (Modifier.isPrivate(method.getModifiers())) {
                Check.due("private " + call + " bears a public name", names.contains(method.getName()) ? 1 : 0, 0);
            } else {
                Check.due(call + " is of the face", due.remove(call) ? 1 : 0, 1);
            }
        }
        Check.due("calls that lack: " + due, due.size(), 0);
        Set<String> constants = new HashSet<>(Set.of("NONE", "BAD", "NO", "FULL"));
        for (Field field : LockFlight.class.getDeclaredFields()) {
            int how = field.getModifiers();
            if (!Modifier.isPrivate(how)) {
                Check.due(field + " is of the face", constants.remove(field.getName()) ? 1 : 0, 1);
            }
            Check.due(field + " is static and not final", Modifier.isStatic(how) && !Modifier.isFinal(how) ? 1 : 0, 0);
        }
        Check.due("constants that lack", constants.size(), 0);
        Constructor<?>[] constructors = LockFlight.class.getDeclaredConstructors();
        Check.due("one constructor", constructors.length, 1);
        Check.due("it is public", Modifier.isPublic(constructors[0].getModifiers()) ? 1 : 0, 1);
        Check.due("the class is final", Modifier.isFinal(LockFlight.class.getModifiers()) ? 1 : 0, 1);
    }

    private static void nested() {
        Class<?>[] inside = LockFlight.class.getDeclaredClasses();
        Check.due("twelve classes at most", inside.length < 12 ? 1 : 0, 1);
        for (Class<?> one : inside) {
            Check.due(one + " is static", Modifier.isStatic(one.getModifiers()) ? 1 : 0, 1);
            int fields = 0;
            for (Field field : one.getDeclaredFields()) {
                fields += Modifier.isStatic(field.getModifiers()) ? 0 : 1;
            }
            Check.due(one + " has twenty fields at most", fields <= 20 ? 1 : 0, 1);
            for (Method method : one.getDeclaredMethods()) {
                Check.due(method + " takes seven at most", method.getParameterCount() <= 7 ? 1 : 0, 1);
            }
        }
    }

    private static void words() throws IOException {
        String source = Files.readString(Path.of("src/main/java/LockFlight.java"));
        for (int i = 0; i < source.length(); i++) {
            Check.due("sign " + i, source.charAt(i) < 127 ? 1 : 0, 1);
        }
        String code = source.replaceAll("//[^\n]*", "").replaceAll("(?s)/\\*.*?\\*/", "");
        String[] never = {"throw", "throws", "try", "catch", "finally", "synchronized", "assert", "import", "package",
            "protected", "Exact", "volatile", "transient", "native", "instanceof", "MAX_VALUE", "MIN_VALUE",
            "System", "Object", "Random", "Thread"};
        for (String word : never) {
            Check.due(word, Pattern.compile("\\b\\w*" + word + "\\b").matcher(code).results()
                .filter(found -> found.group().equals(word) || word.equals("Exact")).count(), 0);
        }
        Check.due("lambda or arrow", code.contains("->") ? 1 : 0, 0);
        Check.due("method reference", code.contains("::") ? 1 : 0, 0);
        Check.due("static block", Pattern.compile("static\\s*\\{").matcher(code).find() ? 1 : 0, 0);
        Check.due("while without a bound", Pattern.compile("(while|for) *\\((true|;;)").matcher(code).find() ? 1 : 0, 0);
        Matcher library = Pattern.compile("\\b(Math|Integer|Long|Arrays|List)\\.(\\w+)").matcher(code);
        Set<String> listed = Set.of("Math.max", "Math.min", "Integer.bitCount", "Integer.compare");
        while (library.find()) {
            Check.due(library.group(), listed.contains(library.group()) ? 1 : 0, 1);
        }
    }
}
