import java.lang.reflect.Array;
import java.lang.reflect.Field;
import java.lang.reflect.Method;
import java.lang.reflect.Modifier;
import java.nio.file.Files;
import java.nio.file.Path;
import java.util.ArrayDeque;
import java.util.ArrayList;
import java.util.Collections;
import java.util.Deque;
import java.util.IdentityHashMap;
import java.util.List;
import java.util.Set;
import java.util.TreeSet;
import java.util.regex.Matcher;
import java.util.regex.Pattern;

/** The face of the document, and those rules of LANGUAGE.md that a test can see. */
public final class RulesTest {
    private static final Checks CHECKS = new Checks("RulesTest");
    private static final List<String> FACE = List.of(
            "int feed(int,int,int,int,int) IllegalStateException",
            "int trim(int) IllegalArgumentException",
            "int teach() ",
            "int errorAt() ",
            "int count(int) IndexOutOfBoundsException",
            "int chart(int,int,int) IndexOutOfBoundsException",
            "int fits(int,int) IndexOutOfBoundsException,IllegalArgumentException",
            "int knit(int) IndexOutOfBoundsException",
            "int cast(int,int) IndexOutOfBoundsException,IllegalArgumentException",
            "int piece(int,int) IndexOutOfBoundsException",
            "int stitch(int,int,int,int) IndexOutOfBoundsException",
            "int many(int,int) IndexOutOfBoundsException",
            "int where(int,int,int) IndexOutOfBoundsException",
            "int crosses(int,int,int) IndexOutOfBoundsException",
            "int wide(int,int) IndexOutOfBoundsException",
            "int high(int) IndexOutOfBoundsException",
            "int front(int) IndexOutOfBoundsException",
            "int needs(int) IndexOutOfBoundsException",
            "int would(int,int,int) IndexOutOfBoundsException,IllegalArgumentException",
            "double mean() ",
            "long digest() ");

    public static void main(String[] args) throws Exception {
        face();
        insides();
        String source = Files.readString(Path.of("src/main/java/CableChart.java"));
        String bare = withoutTextsAndComments(source);
        words(source, bare);
        lengths(bare);
        room();
        CHECKS.finish();
    }

    private static String names(Class<?>[] types) {
        List<String> names = new ArrayList<>();
        for (Class<?> type : types) {
            names.add(type.getSimpleName());
        }
        return String.join(",", names);
    }

    private static void face() {
        CHECKS.holds("the class is public and final", CableChart.class.getModifiers()
                == (Modifier.PUBLIC | Modifier.FINAL));
        CHECKS.same("constructors", CableChart.class.getDeclaredConstructors().length, 1);
        CHECKS.same("public constructors", CableChart.class.getConstructors().length, 1);
        Set<String> open = new TreeSet<>();
        for (Method m : CableChart.class.getDeclaredMethods()) {
            if (!Modifier.isPrivate(m.getModifiers())) {
                CHECKS.same(m.getName(), m.getModifiers(), Modifier.PUBLIC);
                open.add(m.getReturnType() + " " + m.getName() + "("
                        + names(m.getParameterTypes()) + ") " + names(m.getExceptionTypes()));
            }
        }
        CHECKS.holds("the face is " + open, open.equals(new TreeSet<>(FACE)));
        for (Field f : CableChart.class.getDeclaredFields()) {
            CHECKS.holds(f + " is private", Modifier.isPrivate(f.getModifiers()));
        }
    }

    private static void insides() {
        Set<String> faceNames = new TreeSet<>();
        FACE.forEach(line -> faceNames.add(line.replaceAll("^\\w+ (\\w+).*", "$1")));
        List<Class<?>> classes = new ArrayList<>(List.of(CableChart.class.getDeclaredClasses()));
        CHECKS.holds("at most twelve classes", classes.size() < 12);
        classes.add(CableChart.class);
        for (Class<?> c : classes) {
            int fields = 0;
            for (Field f : c.getDeclaredFields()) {
                boolean fixed = Modifier.isStatic(f.getModifiers());
                CHECKS.holds(f + " is final", !fixed || Modifier.isFinal(f.getModifiers()));
                fields += fixed ? 0 : 1;
            }
            CHECKS.holds(c + " has at most twenty fields", fields <= 20);
            for (Method m : c.getDeclaredMethods()) {
                CHECKS.holds(m + " has its own name", c == CableChart.class
                        && Modifier.isPublic(m.getModifiers()) || !faceNames.contains(m.getName()));
                CHECKS.holds(m + " has at most seven parameters", m.getParameterCount() <= 7);
            }
        }
    }

    private static String withoutTextsAndComments(String source) {
        return source.replaceAll("(?s)/\\*.*?\\*/", "").replaceAll("//[^\n]*", "")
                .replaceAll("\"[^\"\n]*\"", "\"\"").replaceAll("'[^']'", "' '");
    }

    private static void words(String source, String bare) {
        CHECKS.holds("signs 1 to 127", source.chars().allMatch(c -> c >= 1 && c <= 127));
        for (String word : new String[] {"->", "::", "@", "Exact", "float", "+ \"\"", "\"\" +"}) {
            CHECKS.holds("without " + word, !bare.contains(word));
        }
        String[] words = {"import", "package", "catch", "try", "finally", "synchronized", "assert",
            "System", "Thread", "Object", "Random", "var", "record", "volatile", "native",
            "transient", "protected", "interface", "equals", "hashCode", "toString"};
        for (String word : words) {
            CHECKS.holds("without " + word, !Pattern.compile("\\b" + word + "\\b").matcher(bare)
                    .find());
        }
        Matcher matcher = Pattern.compile("\\bnew ([A-Z]\\w*)").matcher(bare);
        Set<String> made = new TreeSet<>();
        while (matcher.find()) {
            made.add(matcher.group(1));
        }
        made.removeAll(Set.of("IllegalStateException", "IllegalArgumentException",
                "IndexOutOfBoundsException", "Tape", "Pattern", "Piece", "Needles", "Kind",
                "Tokens", "Reader"));
        CHECKS.holds("nothing else is made: " + made, made.isEmpty());
        CHECKS.holds("no static block", !Pattern.compile("static\\s*\\{").matcher(bare).find());
    }

    /** Methods stand 4 or 8 blanks in, and end with a brace as far in as they begin. */
    private static void lengths(String bare) {
        String[] lines = bare.split("\n");
        for (int i = 0; i < lines.length; i++) {
            CHECKS.holds("line " + lines[i] + " is short", lines[i].length() <= 100);
            String indent = lines[i].replaceAll("\\S.*", "");
            boolean method = (indent.length() == 4 || indent.length() == 8)
                    && lines[i].contains("(") && lines[i].endsWith("{");
            int end = i;
            while (method && end < lines.length && !lines[end].equals(indent + "}")) {
                end++;
            }
            CHECKS.holds(lines[i].trim() + " is short", end - i <= 60);
        }
    }

    /** What an object holds, so that many of them have room at once; no call makes any more. */
    private static void room() throws IllegalAccessException {
        CableChart x = new CableChart();
        long[] before = sizeOf(x);
        CHECKS.holds("objects: " + before[0], before[0] < 600);
        CHECKS.holds("fields and elements: " + before[1], before[1] < 40000);
        Checks.teach(x, "chart a row over cable 6 front 6 slip rest; chart b row rep rest [ tog ];"
                + "piece p cast 20 gauge 1 by 1 work a times 40;"
                + "piece q cast 32 gauge 1 by 1 work b times 5 when done p or [1 < 2];");
        x.knit(0);
        x.knit(1);
        x.needs(0);
        x.would(1, 5, 3);
        x.fits(0, 40);
        x.digest();
        long[] behind = sizeOf(x);
        CHECKS.holds("objects behind calls: " + behind[0], behind[0] <= before[0]);
        CHECKS.same("elements behind calls", behind[1], before[1]);
    }

    private static long[] sizeOf(Object root) throws IllegalAccessException {
        Set<Object> seen = Collections.newSetFromMap(new IdentityHashMap<>());
        Deque<Object> open = new ArrayDeque<>(List.of(root));
        long elements = 0;
        while (!open.isEmpty()) {
            Object o = open.pop();
            if (o == null || o instanceof Enum || !seen.add(o)) {
                continue;
            }
            if (o.getClass().isArray()) {
                int length = Array.getLength(o);
                elements += length;
                for (int i = 0; i < length && !o.getClass().getComponentType().isPrimitive(); i++) {
                    push(open, Array.get(o, i));
                }
                continue;
            }
            for (Field f : o.getClass().getDeclaredFields()) {
                if (!Modifier.isStatic(f.getModifiers())) {
                    elements++;
                    f.setAccessible(true);
                    push(open, f.getType().isPrimitive() ? null : f.get(o));
                }
            }
        }
        return new long[] {seen.size(), elements};
    }

    private static void push(Deque<Object> open, Object o) {
        if (o != null) {
            open.push(o);
        }
    }
}
