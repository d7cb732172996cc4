import java.io.IOException;
import java.io.InputStream;
import java.lang.reflect.Field;
import java.lang.reflect.Method;
import java.lang.reflect.Modifier;
import java.nio.file.Files;
import java.nio.file.Path;
import java.util.ArrayList;
import java.util.LinkedHashMap;
import java.util.List;
import java.util.Map;
import java.util.Set;
import java.util.TreeSet;

/** Rules of LANGUAGE.md, as far as the program's text and its compiled classes tell them. */
public final class LanguageTest {
    private static final String OWN = "RankStock";
    private static final Set<String> THROWN = Set.of("java/lang/IllegalStateException",
        "java/lang/IllegalArgumentException", "java/lang/IndexOutOfBoundsException", "java/lang/ArithmeticException",
        "java/lang/UnsupportedOperationException", "java/util/NoSuchElementException", "java/lang/RuntimeException");
    /** The machine throws none of these, nor one below them. */
    private static final Set<String> CATCHABLE = Set.of("java/lang/IllegalStateException",
        "java/lang/UnsupportedOperationException", "java/util/NoSuchElementException");
    private static final Set<String> OF_NUMBERS = Set.of("compare", "max", "min", "abs", "bitCount", "floorDiv",
        "floorMod", "signum", "numberOfTrailingZeros", "numberOfLeadingZeros", "highestOneBit", "lowestOneBit",
        "valueOf", "intValue");
    private static final Set<String> OF_LISTS =
        Set.of("<init>", "add", "get", "set", "remove", "size", "isEmpty", "clear", "iterator", "of");
    private static final Map<String, Set<String>> LIBRARY = Map.ofEntries(
        Map.entry("java/lang/Object", Set.of("<init>", "clone")),
        Map.entry("java/lang/String",
            Set.of("<init>", "length", "charAt", "isEmpty", "equals", "indexOf", "substring", "toCharArray")),
        Map.entry("java/lang/StringBuilder", Set.of("<init>", "append", "charAt", "setCharAt", "setLength",
            "deleteCharAt", "reverse", "length", "toString")),
        Map.entry("java/util/ArrayList", OF_LISTS), Map.entry("java/util/List", OF_LISTS),
        Map.entry("java/lang/Integer", OF_NUMBERS), Map.entry("java/lang/Long", OF_NUMBERS),
        Map.entry("java/lang/Math", OF_NUMBERS),
        Map.entry("java/util/Iterator", Set.of("hasNext", "next")),
        Map.entry("java/lang/System", Set.of("arraycopy")),
        Map.entry("java/util/Arrays", Set.of("copyOf", "copyOfRange", "fill")));
    /** The calls that add something; all others make nothing but what they throw. */
    private static final Set<String> ADDING = Set.of("<init>", "beast", "rodeo", "enter");

    private static final List<ClassFile> files = new ArrayList<>();
    private static final Map<String, List<String>> calls = new LinkedHashMap<>();
    private static final Map<String, List<String>> makes = new LinkedHashMap<>();

    public static void main(String[] args) throws IOException {
        List<Class<?>> classes = new ArrayList<>(List.of(RankStock.class.getDeclaredClasses()));
        for (Class<?> inside : classes) {
            Check.same(inside.getName() + " is private or package-visible, and static", Modifier.STATIC,
                inside.getModifiers() & (Modifier.PUBLIC | Modifier.PROTECTED | Modifier.STATIC));
        }
        classes.add(RankStock.class);
        for (Class<?> one : classes) {
            read(one);
            fields(one);
        }
        Check.same("some twelve classes", true, classes.size() <= 12);
        Check.same("the calls of the face are found", true, calls.containsKey("RankStock.balances()Z"));
        library();
        exceptions();
        chains();
        rooms();
        text();
        Check.end("LanguageTest");
    }

    private static void read(Class<?> one) throws IOException {
        try (InputStream in = one.getResourceAsStream(one.getName() + ".class")) {
            ClassFile file = new ClassFile(in);
            files.add(file);
            calls.putAll(file.calls);
            makes.putAll(file.makes);
        }
    }

    private static void fields(Class<?> one) {
        int changing = 0;
        for (Field field : one.getDeclaredFields()) {
            boolean isStatic = Modifier.isStatic(field.getModifiers());
            changing += isStatic ? 0 : 1;
            Check.same("5: " + field + " is no static state", true,
                !isStatic || Modifier.isFinal(field.getModifiers()));
        }
        Check.same("11: " + one.getName() + " has some twenty fields", true, changing <= 20);
    }

    private static String classOf(String method) {
        return method.substring(0, method.indexOf('.'));
    }

    private static String nameOf(String method) {
        return method.substring(method.indexOf('.') + 1, method.indexOf('('));
    }

    private static boolean isOwn(String className) {
        return className.equals(OWN) || className.startsWith(OWN + "$");
    }

    private static void library() {
        for (String caller : calls.keySet()) {
            for (String called : calls.get(caller)) {
                Check.same("3: " + caller + " has a lambda or joins texts by +", false,
                    called.equals("invokedynamic"));
                if (called.contains(".") && !isOwn(classOf(called))) {
                    boolean isMade = THROWN.contains(classOf(called)) && nameOf(called).equals("<init>");
                    Set<String> names = LIBRARY.getOrDefault(classOf(called), Set.of());
                    Check.same("4: " + caller + " calls " + called, true, isMade || names.contains(nameOf(called)));
                }
            }
        }
    }

    private static void exceptions() {
        for (ClassFile file : files) {
            for (String caught : file.caught) {
                Check.same("6: caught is " + caught, true, CATCHABLE.contains(caught));
            }
            for (String thrower : file.throwers) {
                Check.same("6: a throw in " + thrower, false, nameOf(thrower).equals("<init>"));
            }
        }
    }

    /** How many methods stand open below this one and with it. The program has no recursion, which could be allowed. */
    private static int depth(String method, List<String> open) {
        Check.same("8: recursion by " + method, false, open.contains(method));
        int deepest = 0;
        if (!open.contains(method)) {
            open.add(method);
            for (String called : calls.getOrDefault(method, List.of())) {
                if (calls.containsKey(called)) {
                    deepest = Math.max(deepest, depth(called, open));
                }
            }
            open.remove(open.size() - 1);
        }
        return 1 + deepest;
    }

    private static void chains() {
        for (String method : calls.keySet()) {
            Check.same("11: calls at most eight deep from " + method, true, depth(method, new ArrayList<>()) <= 8);
        }
    }

    private static void addMade(String method, Set<String> seen, Set<String> made) {
        if (!calls.containsKey(method) || !seen.add(method)) {
            return;
        }
        made.addAll(makes.get(method));
        for (String called : calls.get(method)) {
            addMade(called, seen, made);
        }
    }

    /** Looks and changes use what is there, so that they need no room however often they are called. */
    private static void rooms() {
        for (Method method : RankStock.class.getDeclaredMethods()) {
            for (String compiled : calls.keySet()) {
                boolean isIt = classOf(compiled).equals(OWN) && nameOf(compiled).equals(method.getName());
                if (isIt && Modifier.isPublic(method.getModifiers()) && !ADDING.contains(method.getName())) {
                    Set<String> made = new TreeSet<>();
                    addMade(compiled, new TreeSet<>(), made);
                    made.removeAll(THROWN);
                    Check.same("12: what " + method.getName() + " makes", Set.of(), made);
                }
            }
        }
    }

    private static void text() throws IOException {
        String text = Files.readString(Path.of("src/main/java/RankStock.java"));
        for (String word : List.of("::", "->", "finally", "synchronized", "assert ", "package ", "Exact(", "hashCode",
                "getMessage", "toString", "equals(Object")) {
            Check.same("the program holds " + word, false, text.contains(word));
        }
        for (int i = 0; i < text.length(); i++) {
            boolean isPlain = text.charAt(i) == '\n' || text.charAt(i) >= ' ' && text.charAt(i) <= '~';
            Check.same("4: the sign " + (int) text.charAt(i), true, isPlain);
        }
        lengths(text.split("\n"));
    }

    /** A method begins and ends with lines that stand equally far to the right. */
    private static void lengths(String[] lines) {
        for (int i = 0; i < lines.length; i++) {
            String margin = lines[i].substring(0, lines[i].length() - lines[i].stripLeading().length());
            if (margin.isEmpty() || !lines[i].contains("(") || lines[i].contains(";")) {
                continue;
            }
            int end = i;
            while (end < lines.length - 1 && !lines[end].equals(margin + "}")) {
                end++;
            }
            Check.same("11: some sixty lines from: " + lines[i].trim(), true, end - i < 60 || margin.length() > 8);
        }
        for (Method method : RankStock.class.getDeclaredMethods()) {
            Check.same("11: " + method.getName() + " takes seven", true, method.getParameterCount() <= 7);
        }
    }
}
