import java.io.IOException;
import java.lang.reflect.Constructor;
import java.lang.reflect.Field;
import java.lang.reflect.Method;
import java.lang.reflect.Modifier;
import java.nio.file.Files;
import java.nio.file.Path;
import java.util.Arrays;
import java.util.List;
import java.util.Set;
import java.util.TreeSet;
import java.util.regex.Matcher;
import java.util.regex.Pattern;
import java.util.stream.Collectors;

/** The public face of the document, and the rules of LANGUAGE.md that can be seen in the class or its text. */
public final class FaceTest {
    private static final String FACE = """
            int later(int n); int row(int r, int n); int lay(int r, int i, int v); int tear(int r);
            int copy(int r, int i, int to, int j, int n); int match(int r, int other); int sure(int r, int other);
            int paint(int p, int year); int sap(int least, int most, int use); int proof(int a, int b, int weight);
            int found(int paint, int weight); int rings(int r, int s, int weight);
            int threads(int row, int other, int a, int b, int weight); int strike(int proof);
            int told(int proof, int what); int mark(int proof, int kind); int span(int day, boolean late);
            int quarrel(int day); int leftOut(int day); int heldYear(int day); int hand(int hand, int w);
            int test(int cost, int wound, int group); int often(int test, int hand, int n);
            int done(int test, boolean out); int chance(int hand); int likely(); int gain(int test);
            int next(int cost, int wound); int owner(int a, int b); int gaps(int a, int b);
            int opinion(int expert, int hand, int sure, boolean knew); int mean(int hand, boolean knew);
            int spread(); int sold(int day, int price, int hand); int law(int day, int d, int u, int rate);
            int claim(); int asked(); long upper(); long lower(); int count(int what); int finding();
            int findings(int f); long digest();
            """;

    private static final List<String> WORDS_RULED_OUT = List.of("throw", "throws", "try", "catch", "finally",
            "synchronized", "assert", "package", "protected", "import", "lambda", "Object", "double", "float",
            "Exception", "Random", "Thread", "hashCode", "toString", "equals", "while", "do");

    private static final Checks C = new Checks();

    public static void main(String[] args) throws IOException {
        C.promise(0, "the face");
        classAndConstants();
        methods();
        C.promise(0, "LANGUAGE.md");
        nestedClasses();
        text(Files.readString(Path.of("src/main/java/PictureCourt.java")));
        C.end();
    }

    private static void classAndConstants() {
        Class<?> it = PictureCourt.class;
        C.holds("public and final", it.getModifiers() == (Modifier.PUBLIC | Modifier.FINAL));
        Constructor<?>[] constructors = it.getDeclaredConstructors();
        C.holds("one constructor, public, without parameters", constructors.length == 1
                && constructors[0].getParameterCount() == 0 && Modifier.isPublic(constructors[0].getModifiers()));
        Set<String> open = new TreeSet<>();
        for (Field f : it.getDeclaredFields()) {
            if (!Modifier.isPrivate(f.getModifiers())) {
                open.add(Modifier.toString(f.getModifiers()) + " " + f.getType() + " " + f.getName());
            }
        }
        Set<String> due = List.of("BAD", "FULL", "FINDING", "STATE", "NONE").stream()
                .map(name -> "public static final int " + name).collect(Collectors.toCollection(TreeSet::new));
        C.holds("the constants are those of the document: " + open, open.equals(due));
        C.due("BAD", PictureCourt.BAD, -1);
        C.due("FULL", PictureCourt.FULL, -2);
        C.due("FINDING", PictureCourt.FINDING, -3);
        C.due("STATE", PictureCourt.STATE, -4);
        C.due("NONE", PictureCourt.NONE, -9);
    }

    private static void methods() {
        Set<String> due = new TreeSet<>();
        for (String told : FACE.trim().split("\\s*;\\s*")) {
            due.add("public " + told.replaceAll("(int|boolean) \\w+([,)])", "$1$2").replace(", ", ","));
        }
        Set<String> open = new TreeSet<>();
        for (Method m : PictureCourt.class.getDeclaredMethods()) {
            String types = Arrays.stream(m.getParameterTypes()).map(Class::getName).collect(Collectors.joining(","));
            if (!Modifier.isPrivate(m.getModifiers())) {
                open.add(Modifier.toString(m.getModifiers()) + " " + m.getReturnType() + " " + m.getName()
                        + "(" + types + ")");
            }
        }
        C.due("how many methods the document has", due.size(), 43);
        Method[] all = PictureCourt.class.getDeclaredMethods();
        C.due("names, none of them borne by two methods", Arrays.stream(all).map(Method::getName).distinct().count(),
                all.length);
        C.holds("the methods are those of the document: " + open, open.equals(due));
    }

    private static void nestedClasses() {
        Set<String> face = Arrays.stream(PictureCourt.class.getMethods()).map(Method::getName)
                .collect(Collectors.toSet());
        Class<?>[] inside = PictureCourt.class.getDeclaredClasses();
        C.holds("at most some twelve classes", inside.length < 12);
        for (Class<?> it : inside) {
            C.holds(it + " is static and not public", Modifier.isStatic(it.getModifiers())
                    && !Modifier.isPublic(it.getModifiers()));
            for (Method m : it.getDeclaredMethods()) {
                C.holds(m + " bears no name of the face", !face.contains(m.getName()));
                C.holds(m + " has at most seven parameters", m.getParameterCount() <= 7);
            }
            long fields = Arrays.stream(it.getDeclaredFields())
                    .filter(f -> !Modifier.isStatic(f.getModifiers())).count();
            C.holds(it + " has at most some twenty fields", fields <= 20);
        }
    }

    private static void text(String source) {
        String code = source.replaceAll("(?s)/\\*.*?\\*/", " ").replaceAll("//[^\n]*", " ");
        for (String word : WORDS_RULED_OUT) {
            C.holds("no '" + word + "' in the code", !Pattern.compile("\\b" + word + "\\b").matcher(code).find());
        }
        C.holds("no arrow, no method reference", !code.contains("->") && !code.contains("::"));
        Matcher call = Pattern.compile("\\b([A-Z][a-z]\\w*)\\.(\\w+)").matcher(code);
        while (call.find()) {
            String name = call.group(1) + "." + call.group(2);
            C.holds(name + " is in the library that is left",
                    List.of("Math.max", "Math.min", "Math.abs", "System.arraycopy").contains(name));
        }
        Matcher made = Pattern.compile("^.*\\bnew\\b.*$", Pattern.MULTILINE).matcher(code);
        while (made.find()) {
            C.holds("made with the object, not in a call: " + made.group().trim(), made.group().contains(" final "));
        }
    }
}
