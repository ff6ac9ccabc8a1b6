import java.io.IOException;
import java.lang.reflect.Constructor;
import java.lang.reflect.Field;
import java.lang.reflect.Method;
import java.lang.reflect.Modifier;
import java.nio.file.Files;
import java.nio.file.Path;
import java.util.Arrays;
import java.util.Set;
import java.util.TreeSet;
import java.util.regex.Matcher;
import java.util.regex.Pattern;
import java.util.stream.Stream;

/** The public face, those rules of LANGUAGE.md that can be read from the class and its source, and README.md. */
public final class FaceTests {
    private static final int MOST_LINES_OF_METHOD = 60;
    private static final String[] FACE = {
        "int bolt(int,int,int)", "boolean row(int,int)", "boolean wear(int,int,int)", "int worn(int,int)",
        "int sail(int,int,int,int,int)", "boolean edge(int,int,int)", "boolean stand(int,int,int,int)",
        "int at(int,int,int)", "int cut(int,int,int)", "boolean narrow(int,int,int)", "int patch(int,int,int,int)",
        "int told(int,int)", "int panel(int,int,int)", "int full(int,int)", "boolean lay(int,int,int,int,int)",
        "boolean lift(int,int)", "int left(int)", "int over(int,int)", "int plan(int)", "int fewest(int,int)",
        "boolean mast(int,int)", "boolean wind(int,int)", "boolean set(int,boolean)", "boolean reef(int,int)",
        "int line(int,int)", "long push(int)", "int bears()", "int least()", "int take(int)", "int old(int)",
        "boolean undo()", "int count(int)"};
    private static int wrong = 0;

    private static void check(boolean good, String what) {
        if (!good) {
            wrong++;
            System.out.println(what);
        }
    }

    private static String told(Method m) {
        StringBuilder text = new StringBuilder(m.getReturnType().getName()).append(' ').append(m.getName()).append('(');
        for (Class<?> type : m.getParameterTypes()) {
            text.append(text.charAt(text.length() - 1) == '(' ? "" : ",").append(type.getName());
        }
        return text.append(')').toString();
    }

    private static void face() {
        check(Modifier.isPublic(SailLoft.class.getModifiers()) && Modifier.isFinal(SailLoft.class.getModifiers()),
                "the class is public and final");
        Set<String> shown = new TreeSet<>();
        Set<String> names = new TreeSet<>();
        for (Method m : SailLoft.class.getDeclaredMethods()) {
            if (!Modifier.isPrivate(m.getModifiers())) {
                shown.add(told(m));
                names.add(m.getName());
                check(Modifier.isPublic(m.getModifiers()) && !Modifier.isStatic(m.getModifiers()), "not public: " + m);
            }
        }
        check(shown.equals(new TreeSet<>(Arrays.asList(FACE))), "the face is " + shown);
        for (Class<?> inside : SailLoft.class.getDeclaredClasses()) {
            check(Modifier.isStatic(inside.getModifiers()) && !Modifier.isPublic(inside.getModifiers()), "rule 1: " + inside);
            check(inside.getDeclaredFields().length <= 26, "rule 11, fields: " + inside);
            privateNames(inside, names);
        }
        privateNames(SailLoft.class, names);
        check(SailLoft.class.getDeclaredClasses().length <= 12, "rule 11: classes");
        for (Constructor<?> c : SailLoft.class.getDeclaredConstructors()) {
            check(Modifier.isPublic(c.getModifiers()) && c.getParameterCount() == 0, "constructor: " + c);
        }
        fields();
    }

    private static void privateNames(Class<?> owner, Set<String> publicNames) {
        for (Method m : owner.getDeclaredMethods()) {
            boolean hidden = owner != SailLoft.class || Modifier.isPrivate(m.getModifiers());
            check(!hidden || !publicNames.contains(m.getName()), "rule 1, a public one's name: " + m);
            check(m.getParameterCount() <= 7, "rule 11, parameters: " + m);
        }
    }

    private static void fields() {
        for (Field f : SailLoft.class.getDeclaredFields()) {
            boolean shown = !Modifier.isPrivate(f.getModifiers());
            check(!shown || f.getName().equals("NONE"), "field " + f);
            check(!Modifier.isStatic(f.getModifiers()) || Modifier.isFinal(f.getModifiers()), "rule 5: " + f);
        }
    }

    private static String withoutComments(String source) {
        return Pattern.compile("/\\*.*?\\*/", Pattern.DOTALL).matcher(source).replaceAll("").replaceAll("//[^\n]*", "");
    }

    private static void source(String text) {
        String[] refused = {"->", "::", "\\btry\\b", "\\bcatch\\b", "\\bthrow\\b", "\\bfinally\\b", "\\bsynchronized\\b",
            "\\bassert\\b", "\\bFloat\\b", "\\bDouble\\b", "Math\\.\\w+Exact", "\\bSystem\\.(?!arraycopy)", "\\bpackage\\b",
            "\\bvar\\b", "\\bObject\\b", "\\bstatic\\s*\\{", "\\bgetClass\\b", "\\bhashCode\\b", "\\btoString\\b"};
        for (String token : refused) {
            check(!Pattern.compile(token).matcher(text).find(), "LANGUAGE.md refuses " + token);
        }
        Matcher imports = Pattern.compile("import ([^;]+);").matcher(text);
        while (imports.find()) {
            check(imports.group(1).matches("java\\.util\\.(Arrays|ArrayList|List)"), "import " + imports.group(1));
        }
        for (char c : text.toCharArray()) {
            check(c < 128, "a sign that is not ASCII: " + c);
        }
        methodLengths(text.split("\n"));
    }

    private static void methodLengths(String[] lines) {
        int start = -1;
        String indent = "";
        for (int n = 0; n < lines.length; n++) {
            Matcher head = Pattern.compile("^( {4}| {8})[\\w\\[\\]]+ ?.*\\).*\\{$").matcher(lines[n]);
            if (start < 0 && head.matches() && !lines[n].trim().matches("(if|for|while|switch|else|do)\\b.*")) {
                start = n;
                indent = head.group(1);
            } else if (start >= 0 && lines[n].equals(indent + "}")) {
                check(n - start < MOST_LINES_OF_METHOD, "rule 11, a long method: " + lines[start].trim());
                start = -1;
            }
        }
    }

    /** README.md tells every call of the face, every test of the project, and how these are run. */
    private static void readme(String text, Path tests) throws IOException {
        for (String call : FACE) {
            String name = call.substring(call.indexOf(' ') + 1, call.indexOf('('));
            check(text.contains("`" + name + "`"), "README.md doesn't tell " + name);
        }
        try (Stream<Path> files = Files.list(tests)) {
            files.forEach(file -> {
                String name = file.getFileName().toString().replace(".java", "");
                check(text.contains("`" + name + "`"), "README.md doesn't tell the test " + name);
            });
        }
        check(text.contains("`.ci/run`"), "README.md doesn't tell how the tests are run");
    }

    /** What the example of README.md says in its comments. */
    private static void example() {
        SailLoft loft = new SailLoft();
        int bolt = loft.bolt(10, 50, Float.floatToRawIntBits(1f));
        int sail = loft.sail(0, 10, 4, 10, 10);
        check(bolt == 0 && sail == 0, "the example's numbers");
        check(loft.cut(sail, 5, 1) == 3, "the example's panels");
        check(loft.plan(0) == SailLoft.NONE, "the example's plan");
        check(loft.wind(0, 10) && loft.set(sail, true) && loft.push(1) == 200, "the example's push");
        check(loft.undo() && loft.push(1) == 0, "the example's undo");
    }

    public static void main(String[] args) throws IOException {
        face();
        Path project = Path.of(System.getProperty("project", "."));
        source(withoutComments(Files.readString(project.resolve("src/main/java/SailLoft.java"))));
        readme(Files.readString(project.resolve("README.md")), project.resolve("src/test/java"));
        example();
        System.out.println(wrong == 0 ? "the face is as due" : wrong + " faults");
        if (wrong != 0) {
            System.exit(1);
        }
    }
}
