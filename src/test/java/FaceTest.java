import java.io.IOException;
import java.lang.reflect.Field;
import java.lang.reflect.Method;
import java.lang.reflect.Modifier;
import java.nio.charset.StandardCharsets;
import java.nio.file.Files;
import java.nio.file.Path;
import java.util.ArrayList;
import java.util.List;
import java.util.Set;
import java.util.TreeSet;
import java.util.regex.Matcher;
import java.util.regex.Pattern;

/** The document's face, and those rules of LANGUAGE.md that can be seen from outside. */
public final class FaceTest {
    private static final String FACE = """
        int sand(int,int); int cell(int,int); int set(int,int); int visitor(int,int); int of(int,int);
        int change(int,int,int); int come(int); int go(int); int now(int); int high(int,int); int built(int,int);
        int stands(int); int road(int); int both(int,int); int empty(); int fromFor(int,int);
        int wideFor(int,int,int); int eachFor(int,int); int kindFor(int,int); int windFor(int,int);
        int away(int,int); int fits(int,int,int); int kinds(int,int,int); int comings(int); long odds(int,int);
        int seed(int); int feed(int,int); int wipe(); int text(); int hold(int,int); int as(int,int);
        int sheet(int,int,int); int write(int,int,int); int copy(int,int,int,int,int); int load(int);
        int judge(int); int image(); int undo(); int tear(); int count(int); int status(int);
        """;
    private static final Path DOCUMENT = Path.of("../shared/DOC.md");
    private static final Pattern METHOD = Pattern.compile("(?m)^    public (int|long) (\\w+)\\((.*)\\);$");

    public static void main(String[] args) throws IOException {
        faceIsTheDocuments();
        restIsPrivate();
        insideClassesAreStatic();
        sourceKeepsToTheLanguage();
        Check.end("FaceTest");
    }

    private static Set<String> publicMethods() {
        Set<String> names = new TreeSet<>();
        for (Method m : SandLedger.class.getDeclaredMethods()) {
            if (Modifier.isPublic(m.getModifiers())) {
                List<String> types = new ArrayList<>();
                for (Class<?> type : m.getParameterTypes()) {
                    types.add(type.getName());
                }
                names.add(m.getReturnType().getName() + " " + m.getName() + "(" + String.join(",", types) + ")");
            }
        }
        return names;
    }

    private static Set<String> documentsMethods() throws IOException {
        Set<String> names = new TreeSet<>();
        Matcher m = METHOD.matcher(Files.readString(DOCUMENT, StandardCharsets.UTF_8));
        while (m.find()) {
            names.add(m.group(1) + " " + m.group(2) + "(" + m.group(3).replaceAll(" \\w+(, |$)", "$1").replace(" ", "") + ")");
        }
        return names;
    }

    private static void faceIsTheDocuments() throws IOException {
        Set<String> due = new TreeSet<>();
        for (String one : FACE.split(";")) {
            if (!one.isBlank()) {
                due.add(one.strip());
            }
        }
        Check.due("how many methods", due.size(), 41);
        Check.holds("the face is " + publicMethods(), publicMethods().equals(due));
        if (Files.isReadable(DOCUMENT)) {
            Check.holds("the document's face is " + documentsMethods(), documentsMethods().equals(due));
        } else {
            System.out.println("FaceTest: " + DOCUMENT + " is not here, the face was compared with its copy alone");
        }
        Check.holds("public and final", SandLedger.class.getModifiers() == (Modifier.PUBLIC | Modifier.FINAL));
        Check.due("constructors", SandLedger.class.getDeclaredConstructors().length, 1);
        Check.due("public constructors", SandLedger.class.getConstructors().length, 1);
    }

    private static void restIsPrivate() {
        Set<String> open = new TreeSet<>();
        for (Method m : SandLedger.class.getDeclaredMethods()) {
            if (Modifier.isPublic(m.getModifiers())) {
                open.add(m.getName());
            }
        }
        for (Method m : SandLedger.class.getDeclaredMethods()) {
            boolean isOpen = Modifier.isPublic(m.getModifiers());
            Check.holds(m + " is public or private", isOpen || Modifier.isPrivate(m.getModifiers()));
            Check.holds(m + " has a name of its own", isOpen || !open.contains(m.getName()));
            Check.holds(m + " has few parameters", m.getParameterCount() <= 7);
        }
        for (Class<?> inside : SandLedger.class.getDeclaredClasses()) {
            for (Method m : inside.getDeclaredMethods()) {
                Check.holds(m + " has a name of its own", !open.contains(m.getName()));
            }
        }
        for (Field f : SandLedger.class.getDeclaredFields()) {
            Check.holds(f + " is private", Modifier.isPrivate(f.getModifiers()));
            staticFieldIsFinal(f);
        }
    }

    private static void insideClassesAreStatic() {
        Check.holds("twelve classes at most", SandLedger.class.getDeclaredClasses().length < 12);
        for (Class<?> inside : SandLedger.class.getDeclaredClasses()) {
            Check.holds(inside + " is static", Modifier.isStatic(inside.getModifiers()));
            Check.holds(inside + " is not public", !Modifier.isPublic(inside.getModifiers()));
            int fields = 0;
            for (Field f : inside.getDeclaredFields()) {
                staticFieldIsFinal(f);
                fields += Modifier.isStatic(f.getModifiers()) ? 0 : 1;
            }
            Check.holds(inside + " has few fields", fields <= 20);
        }
    }

    private static void staticFieldIsFinal(Field f) {
        Check.holds(f + " is final, if static", !Modifier.isStatic(f.getModifiers()) || Modifier.isFinal(f.getModifiers()));
    }

    private static void sourceKeepsToTheLanguage() throws IOException {
        String source = Files.readString(Path.of("src/main/java/SandLedger.java"), StandardCharsets.UTF_8);
        String code = source.replaceAll("(?s)/\\*.*?\\*/", " ").replaceAll("//[^\n]*", " ").replaceAll("\"[^\"]*\"", "\"\"");
        String[] ruledOut = {"throw", "throws", "try", "catch", "finally", "synchronized", "assert", "import", "package",
            "System.out", "Thread", "Random", "->", "::", "Exact", "var", "static {"};
        for (String word : ruledOut) {
            Matcher m = Pattern.compile("(?<![A-Za-z0-9_])" + Pattern.quote(word) + "(?![A-Za-z0-9_])").matcher(code);
            Check.holds("no " + word + " in the class", !m.find());
        }
        Check.holds("no name that ends in Exact", !code.contains("Exact("));
        for (int i = 0; i < source.length(); i++) {
            if (source.charAt(i) > 126) {
                Check.holds("plain signs alone, at " + i, false);
            }
        }
    }
}
