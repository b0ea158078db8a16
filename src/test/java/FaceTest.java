import java.io.IOException;
import java.lang.reflect.Constructor;
import java.lang.reflect.Field;
import java.lang.reflect.Method;
import java.lang.reflect.Modifier;
import java.nio.file.Files;
import java.nio.file.Path;
import java.util.HashSet;
import java.util.List;
import java.util.Set;
import java.util.TreeSet;

/** The face is the document's and no more; the file keeps to those rules of LANGUAGE.md that a test can see. */
public final class FaceTest {
    private static final String[] METHODS = {
        "int feed(int,int,int,int,int)", "boolean end(int)", "int text()", "int fault()", "int now(int)",
        "int judge(int,int) throws NoSuchElementException", "int of(int,int) throws NoSuchElementException",
        "int pair(int,int)", "int spread(int)", "int lawful(int)",
        "int bench(int,int)", "int rank(int,int)", "int tension(int,int)", "int pool(int)", "int chances(int,int)",
        "int worst(int)", "int draw(int)", "int drawAll()", "int recuse(int,int)", "int leave(int)", "int come(int)",
        "int hear(int)", "int evenness()", "int better(int)", "int exchange(int,int,int,int)", "int smooth()",
        "int same()", "int anew(int)", "int undo()"};
    private static final String[] REFUSED = {"->", "::", "catch", "finally", "synchronized", "assert", "Exact(",
        "static {", "System.out", "hashCode", "toString", "getMessage", "package "};

    public static void main(String[] args) throws IOException {
        theFace();
        theDocument();
        theClassesInside();
        theSource();
        Check.close("FaceTest");
    }

    private static String told(Method method) {
        StringBuilder told = new StringBuilder(method.getReturnType().getSimpleName());
        told.append(' ').append(method.getName()).append('(');
        String comma = "";
        for (Class<?> type : method.getParameterTypes()) {
            told.append(comma).append(type.getSimpleName());
            comma = ",";
        }
        told.append(')');
        for (Class<?> thrown : method.getExceptionTypes()) {
            told.append(" throws ").append(thrown.getSimpleName());
        }
        return told.toString();
    }

    private static void theFace() {
        Class<?> face = BenchComposer.class;
        Check.due("public and final", face.getModifiers(), Modifier.PUBLIC | Modifier.FINAL);
        Set<String> open = new TreeSet<>();
        for (Method method : face.getDeclaredMethods()) {
            if (!Modifier.isPrivate(method.getModifiers())) {
                open.add(told(method));
            }
        }
        for (String method : METHODS) {
            Check.due("method " + method, open.remove(method), true);
        }
        Check.due("other open methods " + open, open.isEmpty(), true);
        for (Field field : face.getDeclaredFields()) {
            boolean hidden = Modifier.isPrivate(field.getModifiers());
            Check.due("field " + field.getName(), hidden || field.getName().equals("NONE"), true);
        }
        Check.due("NONE", BenchComposer.NONE, -1);
        Constructor<?>[] made = face.getDeclaredConstructors();
        Check.due("one constructor", made.length, 1);
        Check.due("it is public", Modifier.isPublic(made[0].getModifiers()), true);
        Check.due("it takes nothing", made[0].getParameterCount(), 0);
    }

    /** The list above is the document's, line by line. */
    private static void theDocument() throws IOException {
        Path file = Path.of(System.getProperty("project.root", "."), "../shared/DOC.md");
        if (!Files.exists(file)) {
            System.out.println("no " + file + ": the face is not compared with it");
            return;
        }
        Set<String> due = new TreeSet<>(List.of(METHODS));
        due.add("static final int NONE = -1");
        due.add("BenchComposer()");
        due.add("final class BenchComposer {");
        String document = Files.readString(file);
        for (String line : document.substring(document.indexOf("```java"), document.indexOf("## Terms")).split("\n")) {
            if (line.strip().startsWith("public ")) {
                String plain = line.strip().substring("public ".length()).replaceAll("int \\w+,\\s*", "int,")
                        .replaceAll("int \\w+\\)", "int)").replace(";", "");
                Check.due("the document's face has " + plain, due.remove(plain), true);
            }
        }
        Check.due("it has not " + due, due.isEmpty(), true);
    }

    private static void theClassesInside() {
        Set<String> names = new HashSet<>();
        for (String method : METHODS) {
            names.add(method.substring(method.indexOf(' ') + 1, method.indexOf('(')));
        }
        Class<?>[] inside = BenchComposer.class.getDeclaredClasses();
        Check.due("at most twelve classes", inside.length < 12, true);
        for (Class<?> one : inside) {
            int kind = one.getModifiers();
            Check.due(one + " is private and static", Modifier.isPrivate(kind) && Modifier.isStatic(kind), true);
            Check.due(one + " has few fields", one.getDeclaredFields().length <= 20, true);
            for (Method method : one.getDeclaredMethods()) {
                Check.due(method + " bears a name of the face", names.contains(method.getName()), false);
                Check.due(method + " takes few parameters", method.getParameterCount() <= 7, true);
            }
        }
    }

    private static void theSource() throws IOException {
        Path file = Path.of(System.getProperty("project.root", "."), "src/main/java/BenchComposer.java");
        List<String> lines = Files.readAllLines(file);
        int began = 0;
        for (int i = 0; i < lines.size(); i++) {
            String line = lines.get(i);
            String where = "line " + (i + 1) + ": " + line;
            for (String refused : REFUSED) {
                Check.due(where, line.contains(refused), false);
            }
            if (line.startsWith("import ")) {
                Check.due(where, line.equals("import java.util.Arrays;")
                        || line.equals("import java.util.NoSuchElementException;"), true);
            }
            Check.due(where, line.chars().allMatch(sign -> sign >= 32 && sign < 127), true);
            if (line.matches(" {4,8}[^ }].*\\) (throws \\w+ )?\\{")) {
                began = i;
            }
            if (line.matches(" {4,8}\\}")) {
                Check.due("lines of the method that ends at " + where, i - began <= 60, true);
                began = i;
            }
        }
    }
}
