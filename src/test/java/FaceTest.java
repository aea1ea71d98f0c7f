import java.io.IOException;
import java.lang.reflect.Field;
import java.lang.reflect.Method;
import java.lang.reflect.Modifier;
import java.nio.file.Files;
import java.nio.file.Path;
import java.util.Arrays;
import java.util.Set;
import java.util.TreeSet;
import java.util.regex.Matcher;
import java.util.regex.Pattern;
import java.util.stream.Collectors;

/** The public face of the document, and the rules of LANGUAGE.md that the class or its text show. */
public final class FaceTest {
    private static final Checks C = new Checks("FaceTest");
    private static final String[] FACE = {
        "int map(int,int)", "int field()", "int cell(int,int,int,int)", "int lane(int,int)", "int house(int,int,int)",
        "int right(int,int,int)", "int price(int,int,int)", "int costs(int,int)", "int rate(int,int)", "int days(int)",
        "int line(int,int,boolean)", "int make()", "int object(int)", "int hear(int,boolean)", "int enter()",
        "long undo()", "long pay(int,int,long)", "long told(int,int,int)", "long gets(int,int,int)",
        "int look(int,int,int)", "int pieces(int)", "int piece(int,int,int)", "int count(int)", "long digest()"};

    public static void main(String[] args) throws IOException {
        constants();
        members();
        nested();
        text();
        roomOfManyObjects();
        C.end();
    }

    private static void constants() {
        C.due("NONE", LandTaken.NONE, -1);
        C.due("UNKNOWN", LandTaken.UNKNOWN, -101);
        C.due("OUTSIDE", LandTaken.OUTSIDE, -102);
        C.due("STATE", LandTaken.STATE, -103);
        C.due("FULL", LandTaken.FULL, -104);
    }

    private static String form(Method method) {
        String types = Arrays.stream(method.getParameterTypes()).map(Class::getName).collect(Collectors.joining(","));
        return method.getReturnType().getName() + " " + method.getName() + "(" + types + ")";
    }

    private static void members() {
        Class<?> face = LandTaken.class;
        C.due("public and final", face.getModifiers() & (Modifier.PUBLIC | Modifier.FINAL),
                Modifier.PUBLIC | Modifier.FINAL);
        Set<String> seen = new TreeSet<>();
        Set<String> names = new TreeSet<>();
        for (Method method : face.getDeclaredMethods()) {
            if (Modifier.isPublic(method.getModifiers())) {
                seen.add(form(method));
                names.add(method.getName());
            }
        }
        C.holds("the public methods are those of the document", seen.equals(new TreeSet<>(Arrays.asList(FACE))));
        for (Method method : face.getDeclaredMethods()) {
            boolean isPublic = Modifier.isPublic(method.getModifiers());
            C.holds(method.getName() + " is public or private", isPublic || Modifier.isPrivate(method.getModifiers()));
            C.holds(method.getName() + " bears a name of its own", isPublic || !names.contains(method.getName()));
        }
        for (Field field : face.getDeclaredFields()) {
            boolean isStatic = Modifier.isStatic(field.getModifiers());
            C.holds(field.getName() + " is private, or a constant of the document",
                    Modifier.isPrivate(field.getModifiers())
                    || Set.of("NONE", "UNKNOWN", "OUTSIDE", "STATE", "FULL").contains(field.getName()));
            C.holds(field.getName() + " is no static state", !isStatic || Modifier.isFinal(field.getModifiers()));
        }
        C.due("constructors", face.getDeclaredConstructors().length, 1);
    }

    private static void nested() {
        Class<?>[] classes = LandTaken.class.getDeclaredClasses();
        C.holds("at most some twelve classes", classes.length <= 11);
        for (Class<?> one : classes) {
            C.holds(one.getName() + " is static", Modifier.isStatic(one.getModifiers()));
            C.holds(one.getName() + " has some twenty fields", one.getDeclaredFields().length <= 20);
            for (Method method : one.getDeclaredMethods()) {
                C.holds(method.getName() + " takes at most seven", method.getParameterCount() <= 7);
            }
        }
    }

    private static void text() throws IOException {
        String text = Files.readString(Path.of("src/main/java/LandTaken.java"));
        String code = text.replaceAll("(?s)/\\*.*?\\*/", "").replaceAll("//[^\n]*", "");
        for (String word : new String[] {"throw", "throws", "try", "catch", "synchronized", "assert", "import",
            "package", "Object", "hashCode", "toString", "double", "float", "String", "protected"}) {
            C.holds("no '" + word + "'", !Pattern.compile("\\b" + word + "\\b").matcher(code).find());
        }
        C.holds("no lambda, no method reference", !code.contains("->") && !code.contains("::"));
        C.holds("characters 0 to 255 alone", text.chars().allMatch(c -> c < 256));
        longMethods(text);
    }

    private static void longMethods(String text) {
        int start = -1;
        String head = "";
        String[] lines = text.split("\n");
        Pattern opens = Pattern.compile("^( {4}| {8})(?! )[^/*}].*\\) \\{$");
        for (int i = 0; i < lines.length; i++) {
            Matcher open = opens.matcher(lines[i]);
            if (start < 0 && open.matches()) {
                start = i;
                head = open.group(1);
            } else if (start >= 0 && lines[i].equals(head + "}")) {
                C.holds("the method of line " + (start + 1) + " is short", i - start <= 60);
                start = -1;
            }
        }
        C.holds("each method ends", start < 0);
    }

    /** A run makes at most some 600,000 objects; the dearest calls, made again and again, stay far below. */
    private static void roomOfManyObjects() {
        com.sun.management.ThreadMXBean bean =
                (com.sun.management.ThreadMXBean) java.lang.management.ManagementFactory.getThreadMXBean();
        LandTaken x = new LandTaken();
        x.map(12, 1);
        for (int f = 0; f < 12; f++) {
            x.field();
            x.cell(f, 0, f, 0);
        }
        x.rate(4, 0);
        long thread = Thread.currentThread().getId();
        long before = bean.getThreadAllocatedBytes(thread);
        for (int i = 0; i < 30; i++) {
            for (int f = 0; f < 12; f++) {
                x.line(f, 0, true);
            }
            x.make();
            x.enter();
            x.digest();
            x.undo();
        }
        long bytes = bean.getThreadAllocatedBytes(thread) - before;
        C.holds("orders undone leave their rows to the next ones: " + bytes + " bytes", bytes < 20000);
    }
}
