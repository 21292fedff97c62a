import com.sun.management.ThreadMXBean;
import java.io.IOException;
import java.lang.management.ManagementFactory;
import java.lang.reflect.Array;
import java.lang.reflect.Constructor;
import java.lang.reflect.Field;
import java.lang.reflect.Method;
import java.lang.reflect.Modifier;
import java.nio.file.Files;
import java.nio.file.Path;
import java.util.ArrayList;
import java.util.Arrays;
import java.util.IdentityHashMap;
import java.util.List;
import java.util.Map;
import java.util.Set;
import java.util.TreeSet;
import java.util.regex.Matcher;
import java.util.regex.Pattern;

/** The rules of LANGUAGE.md that can be seen in the source or by reflection, and the room taken. */
public final class LanguageTest {
    private static final Checks CHECKS = new Checks("LanguageTest");
    private static final Path SOURCE = Path.of("src/main/java/EarTable.java");
    private static final String FACE = "about(int) back() cell(int,int,int) clear(int,int)"
            + " compare(int,int,int) cut(int,int,int) end(int) fault(int) feed(int,int,int,int,int)"
            + " first(int,int) go(int) greatest(int) key(int) keys(int,int) letter(int,int,int)"
            + " lineAt(int) mark(int) number(int,int) place(int) quarrel(int) quarrels() right(int)"
            + " set(int,int,int) shape(int) sort(int,boolean) table() told(int,int) undo() whole()";

    public static void main(String[] args) throws IOException, IllegalAccessException {
        rule1Face();
        rule1NamesOfPrivateMethods();
        rule2ClassesInside();
        rule5StaticFields();
        rule11Sizes();
        wordsOfTheSource();
        lengthsOfMethods();
        roomOfAnObject();
        callsMakeNothing();
        CHECKS.finish();
    }

    private static List<Class<?>> classes() {
        List<Class<?>> all = new ArrayList<>(Arrays.asList(EarTable.class.getDeclaredClasses()));
        all.add(EarTable.class);
        return all;
    }

    private static void rule1Face() {
        CHECKS.due("public final", EarTable.class.getModifiers(), Modifier.PUBLIC | Modifier.FINAL);
        Set<String> face = new TreeSet<>();
        for (Method method : EarTable.class.getDeclaredMethods()) {
            if (!Modifier.isPrivate(method.getModifiers())) {
                face.add(signature(method));
                CHECKS.due(method + " is public alone", method.getModifiers(), Modifier.PUBLIC);
            }
        }
        CHECKS.dueText("the methods", String.join(" ", face), FACE);
        for (Constructor<?> constructor : EarTable.class.getDeclaredConstructors()) {
            CHECKS.dueText("the constructor", constructor.toString(), "public EarTable()");
        }
        for (Field field : EarTable.class.getDeclaredFields()) {
            boolean isFace = !Modifier.isPrivate(field.getModifiers());
            CHECKS.due(field + " is private, or NONE", isFace, field.getName().equals("NONE"));
        }
    }

    private static String signature(Method method) {
        List<String> types = new ArrayList<>();
        for (Class<?> type : method.getParameterTypes()) {
            types.add(type.getName());
        }
        return method.getName() + "(" + String.join(",", types) + ")";
    }

    private static void rule1NamesOfPrivateMethods() {
        for (Class<?> type : classes()) {
            for (Method method : type.getDeclaredMethods()) {
                boolean isPublic = Modifier.isPublic(method.getModifiers());
                boolean hasPublicName = FACE.matches("(.* )?" + method.getName() + "\\(.*");
                CHECKS.due(method + ": a public one's name", !isPublic && hasPublicName, false);
            }
        }
    }

    private static void rule2ClassesInside() {
        CHECKS.due("at most twelve classes", classes().size() <= 12, true);
        for (Class<?> type : EarTable.class.getDeclaredClasses()) {
            CHECKS.due(type + " is static", Modifier.isStatic(type.getModifiers()), true);
            CHECKS.due(type + " is not public", Modifier.isPublic(type.getModifiers()), false);
            CHECKS.due(type + " has none inside", type.getDeclaredClasses().length, 0);
        }
    }

    private static void rule5StaticFields() {
        Set<String> allowed = Set.of("int", "long", "boolean", "char", "java.lang.String");
        for (Class<?> type : classes()) {
            for (Field field : type.getDeclaredFields()) {
                if (Modifier.isStatic(field.getModifiers())) {
                    boolean isConstant = Modifier.isFinal(field.getModifiers())
                            && allowed.contains(field.getType().getName());
                    CHECKS.due(field + " is a constant", isConstant, true);
                }
            }
        }
    }

    private static void rule11Sizes() {
        for (Class<?> type : classes()) {
            long fields = Arrays.stream(type.getDeclaredFields())
                    .filter(field -> !Modifier.isStatic(field.getModifiers())).count();
            CHECKS.due(type + ": at most twenty fields", fields <= 20, true);
            for (Method method : type.getDeclaredMethods()) {
                CHECKS.due(method + ": parameters", method.getParameterCount() <= 7, true);
            }
        }
    }

    private static String sourceWithoutComments() throws IOException {
        return Files.readString(SOURCE).replaceAll("(?s)/\\*.*?\\*/", "").replaceAll("//.*", "");
    }

    private static void wordsOfTheSource() throws IOException {
        String source = sourceWithoutComments();
        Pattern forbidden = Pattern.compile("\\b(throw|throws|try|catch|synchronized|assert|import"
                + "|package|native|volatile|transient|float|double|hashCode|toString|Exact|Object)\\b"
                + "|->|::|\"|static \\{");
        Matcher matcher = forbidden.matcher(source);
        while (matcher.find()) {
            CHECKS.dueText("the source", matcher.group(), "");
        }
        matcher = Pattern.compile("\\b(System|Math|Integer|Long|Arrays|String)\\.(\\w+)").matcher(source);
        Set<String> allowed = Set.of("System.arraycopy", "Integer.compare", "Long.compare");
        while (matcher.find()) {
            CHECKS.due(matcher.group() + " is allowed", allowed.contains(matcher.group()), true);
        }
        for (char letter : Files.readString(SOURCE).toCharArray()) {
            if (letter > 126) {
                CHECKS.dueText("a letter of the source", "" + letter, "");
            }
        }
    }

    private static void lengthsOfMethods() throws IOException {
        List<String> lines = Files.readAllLines(SOURCE);
        for (int start = 0; start < lines.size(); start++) {
            Matcher opening = Pattern.compile("( {4}| {8})\\S.*\\) \\{").matcher(lines.get(start));
            if (opening.matches()) {
                String closing = opening.group(1) + "}";
                int length = lines.subList(start, lines.size()).indexOf(closing) + 1;
                boolean isShort = length > 0 && length <= 60;
                CHECKS.due("a method of " + length + " lines: " + lines.get(start), isShort, true);
            }
        }
    }

    private static void roomOfAnObject() throws IllegalAccessException {
        Map<Object, Boolean> seen = new IdentityHashMap<>();
        int room = roomOf(new EarTable(), seen);
        CHECKS.due("objects: " + seen.size(), seen.size() <= 60, true);
        CHECKS.due("fields and elements: " + room, room <= 5000, true);
    }

    private static int roomOf(Object object, Map<Object, Boolean> seen)
            throws IllegalAccessException {
        if (object == null || seen.put(object, true) != null) {
            return 0;
        }
        if (object.getClass().isArray()) {
            return Array.getLength(object);
        }
        int room = 0;
        for (Field field : object.getClass().getDeclaredFields()) {
            if (Modifier.isStatic(field.getModifiers())) {
                continue;
            }
            room++;
            if (!field.getType().isPrimitive()) {
                field.setAccessible(true);
                room += roomOf(field.get(object), seen);
            }
        }
        return room;
    }

    private static void callsMakeNothing() {
        ThreadMXBean threads = (ThreadMXBean) ManagementFactory.getThreadMXBean();
        long thread = Thread.currentThread().getId();
        EarTable x = Checks.tableOf("head a*2 b;row 1 2 3;row a*2 -;sum 1 2 3;row 4 5 6;");
        callEverything(x, 8);
        long before = threads.getThreadAllocatedBytes(thread);
        callEverything(x, 500);
        long made = threads.getThreadAllocatedBytes(thread) - before;
        CHECKS.due("bytes made by 500 rounds of calls: " + made, made < 4096, true);
    }

    private static void callEverything(EarTable x, int rounds) {
        for (int k = 0; k < rounds; k++) {
            x.feed(k, k, k, k, k);
            x.table();
            x.end(0);
            x.set(k % 4, k % 3, k);
            x.cut(k % 3, k % 3, k % 5);
            x.sort(k % 3, k % 2 == 0);
            x.whole();
            x.key(k % 11);
            x.mark(k % 5);
            x.key((k + 3) % 11);
            x.go(k % 5);
            x.back();
            x.keys(k % 4, k % 3);
            x.first(k % 4, k % 3);
            x.clear(k % 4, k % 3);
            x.undo();
            x.quarrels();
            x.quarrel(0);
            x.right(0);
            x.greatest(k % 3);
            x.compare(0, k % 3, k % 3);
            x.shape(k % 3);
        }
    }
}
