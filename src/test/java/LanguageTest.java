import java.io.DataInputStream;
import java.io.IOException;
import java.lang.reflect.Field;
import java.lang.reflect.Member;
import java.lang.reflect.Modifier;
import java.nio.file.Files;
import java.nio.file.Path;
import java.util.ArrayList;
import java.util.List;
import java.util.Set;
import java.util.TreeSet;
import java.util.regex.Matcher;
import java.util.regex.Pattern;

/**
 * What of ../shared/LANGUAGE.md can be held by the file and the compiled classes alone; FaceTest holds rule 1. The list
 * of the library is what the class uses today, all of it within rule 4: a use of more of it is to be put here by hand.
 */
public final class LanguageTest {
    private static final Path SOURCE = Path.of("src/main/java/RegisterRows.java");
    private static final Set<String> LIBRARY = Set.of(
            "java/lang/Object.<init>", "java/lang/String.length", "java/lang/String.charAt",
            "java/lang/System.arraycopy", "java/lang/IllegalArgumentException.<init>",
            "java/lang/IllegalStateException.<init>", "java/lang/IndexOutOfBoundsException.<init>",
            "java/lang/ArithmeticException.<init>", "java/lang/UnsupportedOperationException.<init>");
    private static final Set<String> STATIC_TYPES = Set.of("int", "long", "boolean", "char", "String", "int[]", "long[]",
            "char[]", "byte[]");
    private static final Set<String> NESTED_TYPES = Set.of("int", "long", "boolean", "int[]", "long[]", "String");
    private static final String[] NO_WORDS = {"\\bimport\\b", "\\bpackage\\b", "->", "::", "\\bsynchronized\\b",
        "\\bassert\\b", "\\bfinally\\b", "\\btry\\b", "\\bcatch\\b", "\\bstatic\\s*\\{", "\\bnative\\b", "\\bvolatile\\b"};
    private static final int DYNAMIC = 18;

    private static final Checks c = new Checks();

    public static void main(String[] args) throws IOException {
        String source = Files.readString(SOURCE);
        String code = withoutTextsAndComments(source);
        signs(source);
        words(code);
        methods(code);
        List<Class<?>> classes = new ArrayList<>(List.of(RegisterRows.class.getDeclaredClasses()));
        c.due("at most twelve classes", 1, () -> classes.size() < 12 ? 1 : 0);
        for (Class<?> inside : classes) {
            nested(inside);
        }
        classes.add(RegisterRows.class);
        for (Class<?> one : classes) {
            fields(one);
            library(one);
        }
        c.end();
    }

    private static String withoutTextsAndComments(String source) {
        Matcher parts = Pattern.compile("\"(\\\\.|[^\"\\\\])*\"|'(\\\\.|[^'\\\\])'|//[^\n]*|(?s:/\\*.*?\\*/)").matcher(source);
        return parts.replaceAll(part -> Matcher.quoteReplacement(part.group().replaceAll("[^\n]", " ")));
    }

    private static void signs(String source) {
        for (int i = 0; i < source.length(); i++) {
            if (source.charAt(i) > 126 || source.charAt(i) < 32 && source.charAt(i) != '\n') {
                c.fault("sign " + i + " of the file is " + (int) source.charAt(i));
            }
        }
    }

    private static void words(String code) {
        for (String word : NO_WORDS) {
            c.due(word + " in the file", 0, () -> Pattern.compile(word).matcher(code).results().count());
        }
    }

    /** Rule 11: at most seven parameters, some sixty lines. */
    private static void methods(String code) {
        Matcher head = Pattern.compile("\\w+\\(([^()]*)\\)\\s*(throws[\\w,\\s]+)?\\{").matcher(code);
        int many = 0;
        while (head.find()) {
            many++;
            String name = head.group();
            long parameters = head.group(1).chars().filter(sign -> sign == ',').count() + 1;
            c.due("few parameters: " + name, 1, () -> parameters <= 7 ? 1 : 0);
            long lines = code.substring(head.start(), endOfBlock(code, head.end())).lines().count();
            c.due("few lines: " + name, 1, () -> lines <= 60 ? 1 : 0);
        }
        int found = many;
        c.due("the methods have been found", 1, () -> found >= 20 ? 1 : 0);
    }

    private static int endOfBlock(String code, int from) {
        int depth = 1;
        int at = from;
        while (at < code.length() && depth > 0) {
            depth += code.charAt(at) == '{' ? 1 : code.charAt(at) == '}' ? -1 : 0;
            at++;
        }
        return at;
    }

    private static void nested(Class<?> inside) {
        int modifiers = inside.getModifiers();
        if (!Modifier.isStatic(modifiers) || Modifier.isPublic(modifiers) || Modifier.isProtected(modifiers)) {
            c.fault(inside + " is to be static, and private or package-visible");
        }
        for (Member own : inside.getDeclaredMethods()) {
            if (Set.of("equals", "hashCode", "toString").contains(own.getName())) {
                c.fault(inside + " has a " + own.getName());
            }
        }
        for (Field field : inside.getDeclaredFields()) {
            if (!NESTED_TYPES.contains(field.getType().getSimpleName())) {
                c.fault(field + " is of a type that is not listed here");
            }
        }
    }

    /** Rules 5 and 11: what is static is final and a constant, and few fields are not. */
    private static void fields(Class<?> one) {
        int own = 0;
        for (Field field : one.getDeclaredFields()) {
            if (!Modifier.isStatic(field.getModifiers())) {
                own++;
            } else if (!Modifier.isFinal(field.getModifiers())
                    || !STATIC_TYPES.contains(field.getType().getSimpleName())) {
                c.fault(field + " is no constant");
            }
        }
        int many = own;
        c.due("few fields in " + one, 1, () -> many <= 20 ? 1 : 0);
    }

    /** Each method and field of another class that the compiled one names, lambdas and joined texts included. */
    private static void library(Class<?> one) throws IOException {
        Set<String> used = new TreeSet<>();
        try (DataInputStream in = new DataInputStream(one.getResourceAsStream(one.getName() + ".class"))) {
            in.readLong();
            int many = in.readUnsignedShort();
            String[] texts = new String[many];
            int[][] entries = new int[many][];
            for (int i = 1; i < many; i++) {
                int tag = in.readUnsignedByte();
                entries[i] = readEntry(in, tag, i, texts);
                if (tag == 5 || tag == 6) {
                    i++;
                }
            }
            for (int[] entry : entries) {
                if (entry != null && entry[0] >= 9 && entry[0] <= 11) {
                    used.add(texts[entries[entry[1]][1]] + "." + texts[entries[entry[2]][1]]);
                } else if (entry != null && entry[0] >= 15 && entry[0] <= DYNAMIC) {
                    c.fault(one + " has a call or constant that is made when it runs");
                }
            }
        }
        used.removeIf(name -> name.startsWith("RegisterRows") || LIBRARY.contains(name));
        c.dueText("what " + one + " uses of the library", "[]", used.toString());
    }

    /** An entry of the table of constants: its tag, and the numbers of the entries that it names. */
    private static int[] readEntry(DataInputStream in, int tag, int at, String[] texts) throws IOException {
        switch (tag) {
            case 1:
                texts[at] = in.readUTF();
                return new int[] {tag};
            case 5:
            case 6:
                in.readLong();
                return new int[] {tag};
            case 7:
            case 8:
            case 16:
                return new int[] {tag, in.readUnsignedShort()};
            case 15:
                return new int[] {tag, in.readUnsignedByte(), in.readUnsignedShort()};
            case 3:
            case 4:
                in.readInt();
                return new int[] {tag};
            default:
                return new int[] {tag, in.readUnsignedShort(), in.readUnsignedShort()};
        }
    }
}
