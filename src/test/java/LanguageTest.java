import java.io.IOException;
import java.lang.reflect.Field;
import java.lang.reflect.Method;
import java.lang.reflect.Modifier;
import java.nio.file.Files;
import java.nio.file.Path;
import java.util.ArrayList;
import java.util.Arrays;
import java.util.List;
import java.util.Map;
import java.util.TreeMap;
import java.util.TreeSet;
import java.util.regex.Matcher;
import java.util.regex.Pattern;

/** The rules of ../shared/LANGUAGE.md that can be read off the source, and the face of the document. */
public final class LanguageTest {
    private static final Path SOURCE = Path.of("src/main/java/SaidMine.java");
    private static final String[] FACE = {"int write(int)", "int wipe()", "int fault()", "int coast()",
        "int house(int,int)", "int thing(int,int)", "int say(int,int)", "int stone(int)", "int pay(int)", "int blow()",
        "int dawn()", "int undo()", "int judge(int,long)", "int toKeep(int)", "int by(int,int)", "int most()",
        "int share(int,boolean)", "int rests(int,int,int)", "int behind(int,int)", "int quay(int)",
        "int learn(int,boolean,boolean)", "int unlearn()", "int laws()", "int next()", "int see(int,boolean)",
        "int unsee()", "int heard(int,int,int)", "int forgotten(int,int,boolean)", "long seed(long)", "int winds(int)",
        "int keep(int)", "int again(int)", "int count(int)"};
    private static final String[] NEVER = {"throw", "throws", "try", "catch", "finally", "synchronized", "assert",
        "import", "package", "native", "volatile", "transient", "->", "::", "System.out", "Object", "Random", "Thread"};
    private static final String[] LIBRARY = {"Math.min", "Math.max", "Math.abs", "Integer.bitCount",
        "System.arraycopy"};
    private static final int MOST_LINES_OF_A_METHOD = 60;
    private static final int MOST_FIELDS = 20;
    private static final int MOST_CLASSES = 12;
    private static final int MOST_DEPTH = 8;

    private static final Check CHECK = new Check();

    private LanguageTest() { }

    public static void main(String[] args) throws IOException {
        face();
        constants();
        classes();
        String code = Files.readString(SOURCE).replaceAll("(?s)/\\*.*?\\*/", "").replaceAll("//[^\n]*", "");
        words(code);
        methods(code);
        CHECK.end("LanguageTest");
    }

    private static String told(Method m) {
        StringBuilder s = new StringBuilder(m.getReturnType().getSimpleName() + " " + m.getName() + "(");
        for (Class<?> p : m.getParameterTypes()) {
            s.append(s.charAt(s.length() - 1) == '(' ? "" : ",").append(p.getSimpleName());
        }
        return s.append(")").toString();
    }

    private static void face() {
        TreeSet<String> open = new TreeSet<>();
        TreeSet<String> openNames = new TreeSet<>();
        TreeSet<String> closedNames = new TreeSet<>();
        for (Method m : SaidMine.class.getDeclaredMethods()) {
            if (Modifier.isPrivate(m.getModifiers())) {
                closedNames.add(m.getName());
            } else {
                CHECK.isTrue(m + " is public and no static", Modifier.isPublic(m.getModifiers())
                    && !Modifier.isStatic(m.getModifiers()));
                open.add(told(m));
                openNames.add(m.getName());
            }
        }
        for (Class<?> c : SaidMine.class.getDeclaredClasses()) {
            for (Method m : c.getDeclaredMethods()) {
                closedNames.add(m.getName());
            }
        }
        CHECK.isTrue("the face is the document's: " + open, open.equals(new TreeSet<>(Arrays.asList(FACE))));
        closedNames.retainAll(openNames);
        CHECK.isTrue("no other method bears a public one's name: " + closedNames, closedNames.isEmpty());
        CHECK.isTrue("the class is public and final", Modifier.isPublic(SaidMine.class.getModifiers())
            && Modifier.isFinal(SaidMine.class.getModifiers()));
        CHECK.due("constructors", SaidMine.class.getDeclaredConstructors().length, 1);
        CHECK.due("public constructors", SaidMine.class.getConstructors().length, 1);
    }

    private static void constants() {
        List<String> open = new ArrayList<>();
        for (Field f : SaidMine.class.getDeclaredFields()) {
            if (!Modifier.isPrivate(f.getModifiers())) {
                open.add(f.getName());
            }
        }
        CHECK.isTrue("public constants: " + open,
            open.equals(Arrays.asList("UNKNOWN", "OUTSIDE", "STATE", "FULL", "NONE")));
        CHECK.due("UNKNOWN", SaidMine.UNKNOWN, -1);
        CHECK.due("OUTSIDE", SaidMine.OUTSIDE, -2);
        CHECK.due("STATE", SaidMine.STATE, -3);
        CHECK.due("FULL", SaidMine.FULL, -4);
        CHECK.due("NONE", SaidMine.NONE, -9);
    }

    private static void classes() {
        List<Class<?>> all = new ArrayList<>(Arrays.asList(SaidMine.class.getDeclaredClasses()));
        for (Class<?> c : all) {
            int m = c.getModifiers();
            CHECK.isTrue(c + " is static and not open", Modifier.isStatic(m) && !Modifier.isPublic(m)
                && !Modifier.isProtected(m));
        }
        all.add(SaidMine.class);
        CHECK.isTrue("few classes", all.size() <= MOST_CLASSES);
        for (Class<?> c : all) {
            int fields = 0;
            for (Field f : c.getDeclaredFields()) {
                boolean constant = Modifier.isStatic(f.getModifiers());
                fields += constant ? 0 : 1;
                CHECK.isTrue(f + " is final if static", !constant || Modifier.isFinal(f.getModifiers()));
            }
            CHECK.isTrue(c + " has " + fields + " fields", fields <= MOST_FIELDS);
        }
    }

    private static void words(String code) {
        for (String word : NEVER) {
            boolean plain = Character.isLetter(word.charAt(0));
            Pattern p = Pattern.compile(plain ? "\\b" + Pattern.quote(word) + "\\b" : Pattern.quote(word));
            CHECK.isTrue("never: " + word, !p.matcher(code).find());
        }
        Matcher m = Pattern.compile("\\b(Math|Integer|Long|System|Arrays|String|StringBuilder|List|ArrayList)\\b(\\.\\w+)?")
            .matcher(code);
        while (m.find()) {
            CHECK.isTrue("library: " + m.group(), Arrays.asList(LIBRARY).contains(m.group()));
        }
        CHECK.isTrue("no text", code.indexOf('"') < 0);
    }

    /** Methods as name to body, by the indentation that the file keeps. */
    private static void methods(String code) {
        Map<String, String> bodies = new TreeMap<>();
        Matcher m = Pattern.compile("(?m)^( {4}| {8})(?:[a-z]+ )*[A-Za-z\\[\\]]+ (\\w+)\\(([^)]*)\\) \\{\n").matcher(code);
        while (m.find()) {
            String name = m.group(2);
            if (name.equals("if") || name.equals("for") || name.equals("while") || name.equals("switch")) {
                continue;
            }
            int end = code.indexOf("\n" + m.group(1) + "}\n", m.end() - 1);
            String body = code.substring(m.end() - 1, end);
            CHECK.isTrue(name + " is short", body.chars().filter(c -> c == '\n').count() <= MOST_LINES_OF_A_METHOD);
            CHECK.isTrue(name + " takes few", m.group(3).split(",").length <= 7);
            CHECK.isTrue(name + " is told once", bodies.put(name, body) == null);
        }
        CHECK.isTrue("methods are found: " + bodies.size(), bodies.keySet().containsAll(
            Arrays.asList("write", "count", "holds", "stays", "takes", "findWays")));
        for (String name : bodies.keySet()) {
            int depth = depth(name, bodies, 1);
            CHECK.isTrue(name + " goes " + depth + " deep", depth <= MOST_DEPTH);
        }
    }

    private static int depth(String name, Map<String, String> bodies, int at) {
        int deepest = at;
        for (String other : bodies.keySet()) {
            if (at <= MOST_DEPTH && Pattern.compile("\\b" + other + "\\(").matcher(bodies.get(name)).find()) {
                deepest = Math.max(deepest, depth(other, bodies, at + 1));
            }
        }
        return deepest;
    }
}
