import java.io.DataInputStream;
import java.io.IOException;
import java.io.InputStream;
import java.lang.reflect.Field;
import java.lang.reflect.Method;
import java.lang.reflect.Modifier;
import java.nio.charset.StandardCharsets;
import java.nio.file.Files;
import java.nio.file.Path;
import java.util.Arrays;
import java.util.List;
import java.util.Set;
import java.util.TreeSet;
import java.util.regex.Matcher;
import java.util.regex.Pattern;

/** The rules of LANGUAGE.md that can be seen in the text of the class or in its compiled form, by their numbers. */
public final class LanguageTest {
    private static final Path SOURCE = Path.of("src/main/java/MarkChat.java");
    private static final Set<String> EXCEPTIONS = Set.of("IllegalStateException", "IllegalArgumentException",
            "IndexOutOfBoundsException", "ArithmeticException", "UnsupportedOperationException",
            "NoSuchElementException", "RuntimeException");
    private static final Set<String> LISTS = Set.of("<init>", "add", "get", "set", "remove", "size", "isEmpty",
            "clear");
    /** What rule 2 to 10 allow and the class has no need of: whoever comes to need it takes it off here. */
    private static final List<String> UNUSED = List.of("->", "::", "\\btry\\b", "\\bcatch\\b", "\\bfinally\\b",
            "\\bsynchronized\\b", "\\bassert\\b", "\\bpackage\\b", "\\bimport static\\b", "\\bstatic \\{",
            "\\binstanceof\\b", "\\bwhile\\b", "\\bObject\\b", "\\bdouble\\b", "\\bfloat\\b", "\\bvar\\b",
            "\\bprotected\\b", "\\bhashCode\\b", "\\bequals\\b");

    private LanguageTest() {
    }

    public static void main(String[] args) throws IOException {
        String text = Files.readString(SOURCE, StandardCharsets.US_ASCII);
        oneFile();
        imports(text);
        unusedWords(withoutTexts(text));
        exceptions(text);
        libraryCalls();
        shapes();
        methodsAreShort(text);
        Check.end();
    }

    private static void none(String what, Object found) {
        Check.report(what, "[]", String.valueOf(found));
    }

    /** The text without comments, written texts and signs. */
    private static String withoutTexts(String text) {
        return text.replaceAll("(?s)/\\*.*?\\*/", "").replaceAll("\"[^\"\\n]*\"", "\"\"")
                .replaceAll("'[^'\\n]*'", "' '").replaceAll("//[^\\n]*", "");
    }

    private static Set<String> all(String pattern, String text) {
        Set<String> found = new TreeSet<>();
        Matcher matcher = Pattern.compile(pattern).matcher(text);
        while (matcher.find()) {
            found.add(matcher.group(matcher.groupCount()));
        }
        return found;
    }

    private static void oneFile() throws IOException {
        try (var files = Files.walk(Path.of("src/main"))) {
            Check.report("one file", "[" + SOURCE + "]",
                    Arrays.toString(files.filter(Files::isRegularFile).toArray()));
        }
    }

    private static void imports(String text) {
        Set<String> found = all("import ([^;]*);", text);
        found.removeAll(Set.of("java.util.ArrayList", "java.util.Arrays", "java.util.List",
                "java.util.NoSuchElementException", "java.util.Iterator"));
        none("rule 4: imports", found);
    }

    private static void unusedWords(String code) {
        for (String word : UNUSED) {
            none("a word that the class does without: " + word, all("(" + word + ")", code));
        }
    }

    private static void exceptions(String text) {
        Set<String> thrown = all("throw new (\\w+)\\((?:\"[ -~]*\")?\\);", text);
        thrown.removeAll(EXCEPTIONS);
        none("rule 6: exceptions", thrown);
        none("rule 6: throw of something else", all("(throw (?!new \\w+\\((?:\"[ -~]*\")?\\);).*)", text));
    }

    /** Rule 4, from the compiled classes: also what the compiler puts in for a loop, a lambda or joined texts. */
    private static void libraryCalls() throws IOException {
        Set<String> refused = new TreeSet<>();
        Set<String> seen = new TreeSet<>();
        for (Class<?> each : classes()) {
            for (String call : callsOf(each)) {
                seen.add(call);
                if (!isAllowed(call)) {
                    refused.add(each.getName() + ": " + call);
                }
            }
        }
        none("rule 4: the library", refused);
        Check.report("the calls are found", "true", String.valueOf(seen.contains("java/util/ArrayList.get")));
    }

    private static boolean isAllowed(String call) {
        String owner = call.substring(0, call.indexOf('.'));
        String name = call.substring(call.indexOf('.') + 1);
        switch (owner) {
            case "java/lang/Object":
                return name.equals("<init>");
            case "java/lang/String":
                return Set.of("length", "charAt", "isEmpty", "equals", "indexOf", "substring", "toCharArray",
                        "<init>").contains(name);
            case "java/lang/StringBuilder":
                return Set.of("<init>", "append", "charAt", "setCharAt", "setLength", "deleteCharAt", "reverse",
                        "length", "toString").contains(name);
            case "java/util/ArrayList":
            case "java/util/List":
                return LISTS.contains(name);
            case "java/util/Arrays":
                return Set.of("copyOf", "copyOfRange", "fill").contains(name);
            case "java/lang/System":
                return name.equals("arraycopy");
            case "java/lang/Math":
                return !name.endsWith("Exact");
            default:
                String shortOwner = owner.substring(owner.lastIndexOf('/') + 1);
                return owner.startsWith("MarkChat") || EXCEPTIONS.contains(shortOwner) && name.equals("<init>");
        }
    }

    private static List<Class<?>> classes() {
        Class<?>[] inside = MarkChat.class.getDeclaredClasses();
        Class<?>[] all = Arrays.copyOf(inside, inside.length + 1);
        all[inside.length] = MarkChat.class;
        return List.of(all);
    }

    /** The methods and fields that a class file names, as owner.name; "dynamic" for what is linked as it runs. */
    private static Set<String> callsOf(Class<?> each) throws IOException {
        try (InputStream file = each.getResourceAsStream(each.getName() + ".class");
                DataInputStream in = new DataInputStream(file)) {
            in.readLong();
            int size = in.readUnsignedShort();
            String[] texts = new String[size];
            int[] tags = new int[size];
            int[] firsts = new int[size];
            int[] seconds = new int[size];
            for (int i = 1; i < size; i++) {
                tags[i] = in.readUnsignedByte();
                switch (tags[i]) {
                    case 1 -> texts[i] = in.readUTF();
                    case 5, 6 -> {
                        in.readLong();
                        i++;
                    }
                    case 7, 8, 16, 19, 20 -> firsts[i] = in.readUnsignedShort();
                    case 15 -> in.skipBytes(3);
                    default -> {
                        firsts[i] = in.readUnsignedShort();
                        seconds[i] = in.readUnsignedShort();
                    }
                }
            }
            Set<String> calls = new TreeSet<>();
            for (int i = 1; i < size; i++) {
                if (tags[i] >= 9 && tags[i] <= 11) {
                    calls.add(texts[firsts[firsts[i]]] + "." + texts[firsts[seconds[i]]]);
                } else if (tags[i] == 17 || tags[i] == 18) {
                    calls.add("dynamic.call");
                }
            }
            return calls;
        }
    }

    private static void shapes() {
        Check.report("rule 11: at most twelve classes", "true", String.valueOf(classes().size() <= 12));
        for (Class<?> each : classes()) {
            int fields = 0;
            for (Field field : each.getDeclaredFields()) {
                int modifiers = field.getModifiers();
                fields += Modifier.isStatic(modifiers) ? 0 : 1;
                Check.report("rule 5: a constant or no static field, " + field, "true",
                        String.valueOf(!Modifier.isStatic(modifiers) || Modifier.isFinal(modifiers)
                                && field.getType() == int.class));
            }
            Check.report("rule 11: at most twenty fields, " + each, "true", String.valueOf(fields <= 20));
            Check.report("rule 1: no open class inside, " + each, "true", String.valueOf(each == MarkChat.class
                    || !Modifier.isPublic(each.getModifiers()) && !Modifier.isProtected(each.getModifiers())));
            Check.report("rule 2: static inside, " + each, "true", String.valueOf(each == MarkChat.class
                    || Modifier.isStatic(each.getModifiers())));
            for (Method method : each.getDeclaredMethods()) {
                Check.report("rule 11: at most seven parameters, " + method, "true",
                        String.valueOf(method.getParameterCount() <= 7));
            }
        }
    }

    /** Rule 11, by the indentation: from a line that opens a method to its bracket. */
    private static void methodsAreShort(String text) {
        Matcher method = Pattern.compile("(?ms)^( {4,8})(?=\\w)[^\\n]*\\([^;{]*\\{\\n.*?^\\1\\}").matcher(text);
        int methods = 0;
        while (method.find()) {
            methods++;
            int lines = method.group().split("\n").length;
            Check.report("rule 11: some sixty lines, " + method.group().split("\n")[0].strip(), "true",
                    String.valueOf(lines <= 60));
        }
        Check.report("methods are found", "true", String.valueOf(methods > 40));
    }
}
