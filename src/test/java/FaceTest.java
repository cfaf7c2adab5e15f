import java.io.IOException;
import java.lang.reflect.Constructor;
import java.lang.reflect.Field;
import java.lang.reflect.Method;
import java.lang.reflect.Modifier;
import java.nio.file.Files;
import java.nio.file.Path;
import java.util.ArrayList;
import java.util.Arrays;
import java.util.HashSet;
import java.util.List;
import java.util.Set;
import java.util.TreeSet;
import java.util.regex.Matcher;
import java.util.regex.Pattern;

/** The public face as the document tells it, and what LANGUAGE.md says of the file that a test can see. */
public final class FaceTest {
    private static final String FACE = """
        boolean back(int) boolean undo() int amiss(int,int,int) int before() int best(int) int bestAll(int)
        int bestAllBy(int) int bestAllLeaves(int) int bestBy(int) int bestLeaves(int) int better() int body(int,int)
        int days(int) int fault() int feed(int,int,int,int,int) int fewest(int) int fits(int) int judge() int leave(int,int)
        int led(int) int mark() int measured(int,int) int meetBy(int) int meets() int month(int) int months(int,int)
        int need(int,int) int orderAt(int,int) int orders(int) int part(int,int,boolean) int pin(int,int)
        int pinOf(int,int) int pull(int,int) int reach(int) int seam(int,int) int settles(int) int size(int)
        int stripe(int,int) int suit(int) int taped(int,int,int) int tight(int,int) int together(int,int) int trouble()
        int truly(int,boolean) int tryPin(int,int) int until() int visitAt(int) int visits() int wear(int) int when()
        int whenAmiss() int where() int widest() int worst(int) int worstPose(int) int wrong(int,int)
        long enough(int,int,boolean)
        """;
    private static final Path SOURCE = Path.of("src/main/java/SecondFitting.java");
    private static final Path DOCUMENT = Path.of("../shared/DOC.md");

    private static final List<String> BAD = new ArrayList<>();

    private FaceTest() {
    }

    public static void main(String[] args) throws IOException {
        members();
        nested();
        String source = Files.readString(SOURCE);
        signs(source);
        lengths(source);
        if (Files.isReadable(DOCUMENT)) {
            String document = Files.readString(DOCUMENT);
            asInDocument(source, document);
            parts(source, document);
        } else {
            System.out.println("no document at " + DOCUMENT + ": its face isn't looked at");
        }
        for (String bad : BAD) {
            System.out.println(bad);
        }
        System.out.println(BAD.isEmpty() ? "the face is as told" : BAD.size() + " faults of the face");
        if (!BAD.isEmpty()) {
            System.exit(1);
        }
    }

    private static void need(boolean so, String what) {
        if (!so) {
            BAD.add(what);
        }
    }

    private static void members() {
        Class<?> face = SecondFitting.class;
        need(Modifier.isPublic(face.getModifiers()) && Modifier.isFinal(face.getModifiers()), "public and final");
        Set<String> told = new TreeSet<>();
        for (String line : FACE.strip().replaceAll("\\s+", " ").split("(?<=\\)) ")) {
            told.add(line);
        }
        Set<String> found = new TreeSet<>();
        for (Method method : face.getDeclaredMethods()) {
            if (Modifier.isPublic(method.getModifiers())) {
                found.add(method.getReturnType() + " " + method.getName() + "("
                    + String.join(",", Arrays.stream(method.getParameterTypes()).map(Class::getName).toList()) + ")");
                String thrown = Arrays.toString(method.getExceptionTypes());
                need(thrown.equals(method.getName().equals("led") ? "[class java.util.NoSuchElementException]" : "[]"),
                    "thrown by " + method + ": " + thrown);
            } else {
                need(Modifier.isPrivate(method.getModifiers()), "not private: " + method);
            }
        }
        need(told.equals(found), "told: " + told + "\nfound: " + found);
        for (Constructor<?> constructor : face.getDeclaredConstructors()) {
            need(Modifier.isPublic(constructor.getModifiers()) && constructor.getParameterCount() == 0,
                "constructor " + constructor);
        }
        for (Field field : face.getDeclaredFields()) {
            boolean isNone = field.getName().equals("NONE");
            need(isNone ? Modifier.isPublic(field.getModifiers()) : Modifier.isPrivate(field.getModifiers()),
                "field " + field);
            need(!Modifier.isStatic(field.getModifiers()) || Modifier.isFinal(field.getModifiers()),
                "static state " + field);
        }
    }

    private static void nested() {
        Set<String> names = new HashSet<>();
        for (Method method : SecondFitting.class.getMethods()) {
            if (method.getDeclaringClass() == SecondFitting.class) {
                names.add(method.getName());
            }
        }
        List<Class<?>> all = new ArrayList<>(List.of(SecondFitting.class.getDeclaredClasses()));
        need(all.size() < 12, "classes: " + (all.size() + 1));
        all.add(SecondFitting.class);
        for (Class<?> one : all) {
            boolean isFace = one == SecondFitting.class;
            need(isFace || Modifier.isStatic(one.getModifiers()) && !Modifier.isPublic(one.getModifiers()),
                "class " + one);
            long fields = Arrays.stream(one.getDeclaredFields())
                .filter(field -> !Modifier.isStatic(field.getModifiers())).count();
            need(fields <= 20, "fields of " + one + ": " + fields);
            for (Method method : one.getDeclaredMethods()) {
                need(method.getParameterCount() <= 7, "parameters of " + method);
                need(isFace && Modifier.isPublic(method.getModifiers()) || !names.contains(method.getName()),
                    "named as a public one: " + method);
            }
        }
    }

    private static void signs(String source) {
        for (String banned : new String[] {"->", "::", "Exact", "finally", "synchronized", "assert ", "catch", "try {",
            "instanceof", "\npackage ", "double", "float", ".equals(", "System.out", "new Thread", "Random", "nanoTime"}) {
            need(!source.contains(banned), "the file has " + banned.strip());
        }
        for (String line : source.split("\n")) {
            need(!line.startsWith("import ") || line.equals("import java.util.Arrays;")
                || line.equals("import java.util.NoSuchElementException;"), line);
            need(line.length() <= 120, "too long: " + line);
        }
        need(source.chars().allMatch(sign -> sign < 128), "signs beyond 127");
    }

    private static void lengths(String source) {
        int begun = 0;
        int number = 0;
        for (String line : source.split("\n")) {
            number++;
            if (line.matches("    (    )?(public|private|static|boolean|int|long|void|Plan|Fitting).*\\) ?(throws \\w+ )?\\{")) {
                begun = number;
            }
            if (line.matches("    (    )?\\}")) {
                need(number - begun <= 62 || begun == 0, "a long method ends at line " + number);
                begun = 0;
            }
        }
    }

    /** Each line of the interface, and the face of each promise, stands in the file by its words. */
    private static void asInDocument(String source, String document) {
        int begun = document.indexOf("```java\n") + "```java\n".length();
        String face = document.substring(begun, document.indexOf("```", begun));
        int lines = 0;
        for (String line : face.split("\n")) {
            String words = line.endsWith(");") || line.contains("throws")
                ? line.substring(0, line.lastIndexOf(';')) + " {" : line;
            need(words.isBlank() || source.contains("\n" + words + "\n"), "isn't in the file: " + words);
            lines += line.startsWith("    public ") ? 1 : 0;
        }
        need(lines == 59, "lines of the interface: " + lines);
        Matcher promise = Pattern.compile("\n## Promise \\d+: .*\n\n`([^`]+)`").matcher(document);
        int promises = 0;
        while (promise.find()) {
            need(face.contains(" " + promise.group(1) + ";"), "isn't in the interface: " + promise.group(1));
            promises++;
        }
        need(promises == 58, "promises: " + promises);
    }

    /** The calls stand in the file under what the interface says ahead of them, in its order. */
    private static void parts(String source, String document) {
        Matcher part = Pattern.compile("Ahead of the calls (.*) the interface says: (.*)\\.\n").matcher(document);
        int parts = 0;
        while (part.find()) {
            parts++;
            int begun = source.indexOf("    // " + part.group(2) + "\n");
            need(begun >= 0, "isn't said in the file: " + part.group(2));
            String behind = source.substring(Math.max(0, begun) + 1);
            Matcher call = Pattern.compile("\n    public \\w+ (\\w+)\\(").matcher(behind.split("    // ----")[0]);
            List<String> found = new ArrayList<>();
            while (call.find()) {
                found.add("`" + call.group(1) + "`");
            }
            need(part.group(1).equals(String.join(", ", found)), part.group(2) + ": " + found);
        }
        need(parts == 10, "parts of the interface: " + parts);
    }
}
