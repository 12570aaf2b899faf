import java.lang.reflect.Constructor;
import java.lang.reflect.Field;
import java.lang.reflect.Member;
import java.lang.reflect.Method;
import java.lang.reflect.Modifier;
import java.nio.file.Files;
import java.nio.file.Path;
import java.util.Arrays;
import java.util.HashSet;
import java.util.Set;
import java.util.TreeSet;
import java.util.regex.Matcher;
import java.util.regex.Pattern;

/** The document's face and no other, and what of LANGUAGE.md can be seen without reading on. */
final class FaceTest {
    private static final String[] METHODS = {
        "int type(int)", "int clear()", "int harbour()", "int die(int,int)", "int berth(int)", "int player(int,int)",
        "int throwsDice(int,int,int)", "int takes(int)", "int passes()", "int leaves()", "int undo()", "int now(int)",
        "int chance(int,int)", "int odds(int,int)", "int wise(int)", "int cheap()", "int ever()",
        "int chalks(int,int)", "int wipes()", "int wrong()", "int off(int)", "int bet()",
        "int third(int,int,int)", "int threw(int,int)", "int beats(int,int,int)", "int ring()",
        "int mark(int,int)", "int keep(int)", "int back(int)", "int count(int)", "long trace()"};
    private static final String[] BANNED = {
        "throw", "try", "catch", "finally", "synchronized", "assert", "import", "package", "native", "volatile",
        "double", "float", "hashCode", "toString", "Exact", "->", "::"};
    private static final int METHOD_MOST = 60, CLASSES_MOST = 12, FIELDS_MOST = 20, PARAMETERS_MOST = 7;
    private static final Check check = new Check();

    public static void main(String[] args) throws Exception {
        constants();
        members();
        insideClasses();
        source(Files.readString(Path.of(args.length > 0 ? args[0] : "src/main/java/TideDice.java")));
        check.end();
    }

    private static void constants() throws Exception {
        check.due("BAD", TideDice.BAD, -1);
        check.due("STATE", TideDice.STATE, -2);
        check.due("FULL", TideDice.FULL, -3);
        check.due("NONE", TideDice.NONE, -9);
        check.due("NO", TideDice.NO, -1000000);
        Set<String> seen = new TreeSet<>();
        for (Field field : TideDice.class.getDeclaredFields()) {
            if (isSeen(field)) {
                seen.add(field.getName());
                check.isTrue(field + " is a constant", Modifier.toString(field.getModifiers()).equals("public static final"));
            }
        }
        check.isTrue("constants seen: " + seen, seen.equals(Set.of("BAD", "STATE", "FULL", "NONE", "NO")));
    }

    private static boolean isSeen(Member member) {
        return !Modifier.isPrivate(member.getModifiers()) && !member.isSynthetic();
    }

    private static void members() {
        int kind = TideDice.class.getModifiers();
        check.isTrue("public and final", Modifier.isPublic(kind) && Modifier.isFinal(kind));
        Constructor<?>[] constructors = TideDice.class.getDeclaredConstructors();
        check.due("constructors", constructors.length, 1);
        check.isTrue("its constructor", constructors[0].toString().equals("public TideDice()"));
        Set<String> seen = new TreeSet<>();
        Set<String> names = new HashSet<>();
        for (Method method : TideDice.class.getDeclaredMethods()) {
            if (isSeen(method)) {
                seen.add(method.toString().replace("TideDice.", ""));
                names.add(method.getName());
            }
        }
        Set<String> due = new TreeSet<>();
        for (String method : METHODS) {
            due.add("public " + method);
        }
        check.isTrue("methods seen: " + seen, seen.equals(due));
        for (Class<?> type : allClasses()) {
            for (Method method : type.getDeclaredMethods()) {
                boolean own = type == TideDice.class && isSeen(method);
                check.isTrue(method + " bears a name of its own", own || !names.contains(method.getName()));
            }
        }
    }

    private static Class<?>[] allClasses() {
        Class<?>[] inside = TideDice.class.getDeclaredClasses();
        Class<?>[] all = Arrays.copyOf(inside, inside.length + 1);
        all[inside.length] = TideDice.class;
        return all;
    }

    private static void insideClasses() {
        Class<?>[] all = allClasses();
        check.isTrue("not too many classes", all.length <= CLASSES_MOST);
        for (Class<?> type : all) {
            int fields = 0;
            for (Field field : type.getDeclaredFields()) {
                boolean fixed = Modifier.isStatic(field.getModifiers());
                check.isTrue(field + " is no static state", !fixed || Modifier.isFinal(field.getModifiers()));
                fields += fixed ? 0 : 1;
            }
            check.isTrue("not too many fields in " + type, fields <= FIELDS_MOST);
            for (Method method : type.getDeclaredMethods()) {
                check.isTrue("not too many parameters of " + method, method.getParameterCount() <= PARAMETERS_MOST);
            }
            if (type != TideDice.class) {
                int kind = type.getModifiers();
                check.isTrue(type + " is static", Modifier.isStatic(kind));
                check.isTrue(type + " isn't seen", !Modifier.isPublic(kind) && !Modifier.isProtected(kind));
            }
        }
    }

    private static void source(String whole) {
        String code = whole.replaceAll("(?s)/\\*.*?\\*/", "").replaceAll("//[^\n]*", "");
        for (String word : BANNED) {
            Matcher found = Pattern.compile(word.matches("[a-z]+") ? "\\b" + word + "\\b" : Pattern.quote(word)).matcher(code);
            check.isTrue("no '" + word + "' in the file", !found.find());
        }
        Matcher library = Pattern.compile("\\b(System|Math|Integer|Long|Arrays)\\.(\\w+)").matcher(code);
        Set<String> allowed = Set.of("System.arraycopy", "Math.min", "Math.max", "Math.abs", "Integer.bitCount");
        while (library.find()) {
            check.isTrue(library.group() + " is in the library's list", allowed.contains(library.group()));
        }
        methodLengths(whole);
    }

    private static void methodLengths(String whole) {
        int start = -1;
        String[] lines = whole.split("\n");
        for (int i = 0; i < lines.length; i++) {
            if (lines[i].matches(" {4}(?: {4})?\\S.*\\) \\{")) {
                start = i;
            } else if (start >= 0 && lines[i].matches(" {4}(?: {4})?\\}")) {
                check.isTrue("short: " + lines[start].trim(), i - start <= METHOD_MOST);
                start = -1;
            }
        }
    }
}
