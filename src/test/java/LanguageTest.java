import java.io.IOException;
import java.lang.reflect.Field;
import java.lang.reflect.Method;
import java.lang.reflect.Modifier;
import java.nio.file.Files;
import java.nio.file.Path;
import java.util.ArrayDeque;
import java.util.Arrays;
import java.util.Deque;
import java.util.Set;
import java.util.TreeSet;
import java.util.regex.Matcher;
import java.util.regex.Pattern;

/** The rules of LANGUAGE.md that can be seen in the program's text or by reflection. Run from the project's root. */
public final class LanguageTest {
    private static final Path PROGRAM = Path.of("src/main/java/SaltPrices.java");
    private static final String[] FACE = {
        "int set(int,int)", "int road(int,int,int)", "int price(int,int)", "int guard(int,int)", "int toll(int,int)",
        "int makeHonest()", "int cart(int,int)", "int buy(int,int)", "int sell(int,int)", "int go(int,int,int)",
        "int write()", "int ofTown(int,int)", "int ofRoad(int,int)", "int ofCart(int,int)", "long worth(int,int,int)",
        "int sign(int)", "int count(int)", "int step(int,int)", "int fewestGuards(int)", "int mostPrice(int)",
        "int ifHonest()", "int wouldHave(int,int,int)", "int put(long)", "int wipe()", "int fault()", "int carryOut()",
        "int undo()", "int save(int)", "int restore(int)"};
    private static final String[] CONSTANTS = {"NO_SUCH=-1", "BAD_VALUE=-2", "BAD_TEXT=-3", "TOO_MANY=-4",
        "NOT_POSSIBLE=-5", "NONE=-6", "FINE=0", "EYE=1", "LEGS=2", "POOL=3"};
    private static final Check check = new Check();

    public static void main(String[] args) throws Exception {
        String code = withoutComments(Files.readString(PROGRAM));
        face();
        words(code);
        Set<String> names = new TreeSet<>();
        for (String signature : FACE) {
            names.add(signature.replaceAll(".* |\\(.*", ""));
        }
        Class<?>[] inside = SaltPrices.class.getDeclaredClasses();
        check.begin("rule 11");
        check.due("classes are few", inside.length <= 11 ? 1 : 0, 1);
        classRules(SaltPrices.class, names);
        for (Class<?> kind : inside) {
            check.begin("rule 1 and 2, " + kind.getSimpleName());
            check.due("is static", Modifier.isStatic(kind.getModifiers()) ? 1 : 0, 1);
            check.due("is not public", Modifier.isPublic(kind.getModifiers()) ? 1 : 0, 0);
            classRules(kind, names);
        }
        methodLengths(code);
        check.end();
    }

    private static void face() throws Exception {
        check.begin("rule 1");
        Set<String> methods = new TreeSet<>();
        for (Method method : SaltPrices.class.getDeclaredMethods()) {
            if (!Modifier.isPrivate(method.getModifiers()) && !method.isSynthetic()) {
                String parameters = Arrays.toString(method.getParameterTypes()).replaceAll("[\\[\\] ]", "");
                methods.add(method.getReturnType() + " " + method.getName() + "(" + parameters + ")");
            }
        }
        same("methods", methods, new TreeSet<>(Arrays.asList(FACE)));
        Set<String> constants = new TreeSet<>();
        for (Field field : SaltPrices.class.getDeclaredFields()) {
            if (!Modifier.isPrivate(field.getModifiers()) && !field.isSynthetic()) {
                constants.add(field.getName() + "=" + field.getInt(null));
            }
        }
        same("constants", constants, new TreeSet<>(Arrays.asList(CONSTANTS)));
        check.due("final", Modifier.isFinal(SaltPrices.class.getModifiers()) ? 1 : 0, 1);
        check.due("constructors", SaltPrices.class.getDeclaredConstructors().length, 1);
    }

    private static void same(String what, Set<String> got, Set<String> want) {
        if (!got.equals(want)) {
            check.fail(what + " are " + got + ", due are " + want);
        }
    }

    private static void words(String code) {
        check.begin("rules 2 to 6, 9 and 13");
        String[] forbidden = {"\\bthrows?\\b", "\\btry\\b", "\\bcatch\\b", "\\bassert\\b", "\\bpackage\\b",
            "\\bsynchronized\\b", "\\bprotected\\b", "::", "Exact\\(", "\\bhashCode\\b", "\\bstatic\\s*\\{",
            "\\bwhile\\s*\\(\\s*true\\s*\\)", "\\bfor\\s*\\([^;)]*;\\s*;", "\\bSystem\\.(?!arraycopy\\b)",
            "\\bimport (?!java\\.util\\.(ArrayList|Arrays|Iterator|List);)", "\\)\\s*->", "[(,=]\\s*\\w+\\s*->"};
        String withoutCases = code.replaceAll("\\bcase\\b[^;{}:]*->|\\bdefault\\s*->", "");
        for (String word : forbidden) {
            Matcher matcher = Pattern.compile(word).matcher(withoutCases);
            if (matcher.find()) {
                check.fail("the program has " + matcher.group());
            }
        }
        for (int i = 0; i < code.length(); i++) {
            if (code.charAt(i) > 127) {
                check.fail("the program has the sign " + (int) code.charAt(i));
            }
        }
    }

    private static void classRules(Class<?> kind, Set<String> faceNames) {
        check.begin("rules 1, 5, 6 and 11, " + kind.getSimpleName());
        int own = 0;
        for (Field field : kind.getDeclaredFields()) {
            if (!Modifier.isStatic(field.getModifiers())) {
                own++;
            } else if (!Modifier.isFinal(field.getModifiers())) {
                check.fail(field.getName() + " is static and not final");
            }
        }
        check.due("fields are few", own <= 20 ? 1 : 0, 1);
        for (Method method : kind.getDeclaredMethods()) {
            if (!kind.isRecord() && method.getName().matches("equals|hashCode|toString")) {
                check.fail(method.getName() + " is the program's own");
            }
            boolean isFace = kind == SaltPrices.class && Modifier.isPublic(method.getModifiers());
            if (!isFace && faceNames.contains(method.getName())) {
                check.fail(method.getName() + " bears the name of a public method");
            }
            if (method.getParameterCount() > 7) {
                check.fail(method.getName() + " takes too many parameters");
            }
        }
    }

    /** A block directly inside a class, with parameters ahead of it, is a method's. */
    private static void methodLengths(String code) {
        check.begin("rule 11");
        String bare = code.replaceAll("'(\\\\.|[^'\\\\])'", "' '").replaceAll("\"(\\\\.|[^\"\\\\])*\"", "\"\"");
        Deque<String> kinds = new ArrayDeque<>();
        Deque<Integer> starts = new ArrayDeque<>();
        StringBuilder head = new StringBuilder();
        int line = 1;
        for (char sign : bare.toCharArray()) {
            line += sign == '\n' ? 1 : 0;
            head.append(sign);
            if (sign == '{') {
                kinds.push(kindOf(head.toString(), kinds.isEmpty() ? "" : kinds.peek()));
                starts.push(line);
            } else if (sign == '}' && !kinds.isEmpty()) {
                int length = line - starts.pop() + 1;
                if (kinds.pop().equals("method") && length > 60) {
                    check.fail("a method of " + length + " lines ends in line " + line + " of the text without comments");
                }
            }
            if (sign == '{' || sign == '}' || sign == ';') {
                head.setLength(0);
            }
        }
    }

    private static String kindOf(String head, String around) {
        if (Pattern.compile("\\b(class|record|enum|interface)\\b").matcher(head).find()) {
            return "class";
        }
        return around.equals("class") && head.contains(")") ? "method" : "block";
    }

    private static String withoutComments(String text) throws IOException {
        return text.replaceAll("(?s)/\\*.*?\\*/", "").replaceAll("//[^\n]*", "");
    }
}
