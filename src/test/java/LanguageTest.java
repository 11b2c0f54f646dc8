import java.io.IOException;
import java.lang.reflect.Constructor;
import java.lang.reflect.Field;
import java.lang.reflect.Method;
import java.lang.reflect.Modifier;
import java.nio.file.Files;
import java.nio.file.Path;
import java.util.ArrayList;
import java.util.List;
import java.util.Set;
import java.util.TreeSet;
import java.util.regex.Matcher;
import java.util.regex.Pattern;

/** The face of the document, and those rules of LANGUAGE.md that can be looked at by a program. */
public final class LanguageTest {
    private static final Path SOURCE = Path.of("src/main/java/SignedPages.java");
    private static final String[] FACE = {
        "int row(int,int)", "int lay(int,int,int)", "int at(int,int)", "int tear(int)", "int copy(int,int,int,int,int)",
        "int mean(int)", "int text(int,int)", "int put(int,int,int)", "int later(int)", "int note(int,int)",
        "int root(int,int,int)", "int list(int,int,int,int,boolean)", "int together(int,int,int,int)",
        "int hour(int,int,int)", "int sign(int,int)", "int told(int,int)", "int mark(int,int)", "int good(int,int)",
        "int sumOf(int,int)", "int chain(int)", "int fault(int)", "int machine(int,int,int)", "int ask(int,int)",
        "int offer(int,int,int)", "int runs(int,int)", "int took(int,int)", "int walk(int)", "int whoHas(int)",
        "int reached(int)", "int refused(int,int)", "int noisy(int,int,int)", "int harm(int,int,int,int)",
        "int least(int,int,int)", "int share(int,int,int,int)", "int askings(int,int,int,int)", "int writes(int,int,int)",
        "int neither(int,int)", "int asked()", "long upper()", "long lower()", "int count(int)", "int finding()",
        "int findings(int)", "long digest()",
    };
    private static final String[] FORBIDDEN = {
        "\\bthrow\\b", "\\btry\\b", "\\bcatch\\b", "\\bsynchronized\\b", "\\bassert\\b", "->", "::", "\\bimport\\b", "@",
        "\\bpackage\\b", "\\bprotected\\b", "Exact\\b", "\\bhashCode\\b", "\\btoString\\b", "\\bvolatile\\b", "\\bvar\\b",
        "\\bObject\\b", "\\bThread\\b", "\\bdouble\\b", "\\bfloat\\b", "\\bsealed\\b", "\\byield\\b", "[^\\x00-\\x7f]",
    };

    private LanguageTest() {
    }

    public static void main(String[] args) throws IOException {
        face();
        classes();
        words();
        sizes();
        constants();
        Check.end();
    }

    private static void holds(String what, boolean is) {
        Check.due(what, is ? 1 : 0, 1);
    }

    private static String said(Method method) {
        List<String> types = new ArrayList<>();
        for (Class<?> type : method.getParameterTypes()) {
            types.add(type.getSimpleName());
        }
        return method.getReturnType().getSimpleName() + " " + method.getName() + "(" + String.join(",", types) + ")";
    }

    private static void face() {
        Set<String> due = new TreeSet<>(List.of(FACE));
        Set<String> names = new TreeSet<>();
        int found = 0;
        for (Method method : SignedPages.class.getDeclaredMethods()) {
            if (Modifier.isPublic(method.getModifiers())) {
                found++;
                holds("of the face: " + said(method), due.contains(said(method)) && !Modifier.isStatic(method.getModifiers()));
                names.add(method.getName());
            } else {
                holds("private: " + said(method), Modifier.isPrivate(method.getModifiers()));
            }
        }
        Check.due("methods of the face", found, FACE.length);
        for (Class<?> inside : withInside()) {
            for (Method method : inside.getDeclaredMethods()) {
                if (!Modifier.isPublic(method.getModifiers())) {
                    holds("a name of its own: " + said(method), !names.contains(method.getName()));
                }
                holds("seven parameters at most: " + said(method), method.getParameterCount() <= 7);
            }
        }
        Constructor<?>[] constructors = SignedPages.class.getDeclaredConstructors();
        Check.due("constructors", constructors.length, 1);
        holds("a public one without parameters",
            Modifier.isPublic(constructors[0].getModifiers()) && constructors[0].getParameterCount() == 0);
        holds("public and final", Modifier.isPublic(SignedPages.class.getModifiers())
            && Modifier.isFinal(SignedPages.class.getModifiers()));
    }

    private static List<Class<?>> withInside() {
        List<Class<?>> all = new ArrayList<>(List.of(SignedPages.class.getDeclaredClasses()));
        all.add(SignedPages.class);
        return all;
    }

    private static void classes() {
        holds("twelve classes at most", withInside().size() <= 12);
        Set<String> constants = Set.of("BAD", "FULL", "FINDING", "STATE", "NONE");
        for (Class<?> inside : withInside()) {
            int fields = 0;
            for (Field field : inside.getDeclaredFields()) {
                boolean isStatic = Modifier.isStatic(field.getModifiers());
                fields += isStatic ? 0 : 1;
                holds("a static field is final: " + field, !isStatic || Modifier.isFinal(field.getModifiers()));
                if (inside == SignedPages.class) {
                    holds("private but for the constants: " + field,
                        constants.contains(field.getName()) || Modifier.isPrivate(field.getModifiers()));
                }
            }
            holds("twenty fields at most: " + inside, fields <= 20);
            holds("static inside: " + inside, inside == SignedPages.class
                || Modifier.isStatic(inside.getModifiers()) && !Modifier.isPublic(inside.getModifiers()));
            holds("none inside those: " + inside, inside == SignedPages.class || inside.getDeclaredClasses().length == 0);
        }
    }

    private static String code() throws IOException {
        return Files.readString(SOURCE).replaceAll("(?s)/\\*.*?\\*/", "").replaceAll("//[^\n]*", "");
    }

    private static void words() throws IOException {
        String code = code();
        for (String word : FORBIDDEN) {
            Matcher matcher = Pattern.compile(word).matcher(code);
            holds("no " + word, !matcher.find());
        }
        Matcher library = Pattern.compile("\\b(Integer|Math|System|Arrays|Long|String|StringBuilder|List|ArrayList)\\.(\\w+)").matcher(code);
        Set<String> allowed = Set.of("Integer.bitCount", "Math.min", "Math.max", "System.arraycopy");
        while (library.find()) {
            holds("of the library: " + library.group(), allowed.contains(library.group()));
        }
    }

    /** By the way that the file is laid out: a method begins and ends at its own depth of blanks. */
    private static void sizes() throws IOException {
        String[] lines = Files.readString(SOURCE).split("\n");
        int begun = -1;
        for (int i = 0; i < lines.length; i++) {
            if (lines[i].matches("( {4}| {8})(public|private|static|int|long|boolean|void|Page|Root|Listing|[A-Z]\\w*\\().*\\{")
                && !lines[i].contains(" class ")) {
                begun = i;
            }
            if (lines[i].matches("( {4}| {8})\\}") && begun >= 0) {
                holds("sixty lines at most, from line " + (begun + 1), i - begun <= 60);
                begun = -1;
            }
        }
    }

    private static void constants() {
        Check.due("BAD", SignedPages.BAD, -1);
        Check.due("FULL", SignedPages.FULL, -2);
        Check.due("FINDING", SignedPages.FINDING, -3);
        Check.due("STATE", SignedPages.STATE, -4);
        Check.due("NONE", SignedPages.NONE, -9);
    }
}
