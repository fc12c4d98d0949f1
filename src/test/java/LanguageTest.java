import java.io.DataInputStream;
import java.io.IOException;
import java.io.InputStream;
import java.lang.reflect.Field;
import java.lang.reflect.Method;
import java.lang.reflect.Modifier;
import java.nio.file.Files;
import java.nio.file.Path;
import java.util.ArrayList;
import java.util.List;
import java.util.Set;
import java.util.TreeSet;
import java.util.regex.Matcher;
import java.util.regex.Pattern;

/** Rules 4, 5, 6, 11 and 13 of LANGUAGE.md, as far as the compiled classes and the lines of the source tell. */
public final class LanguageTest {
    private static final Check T = new Check("language");
    private static final Path SOURCE = Path.of("src/main/java/WaxVoices.java");
    private static final int MOST_CLASSES = 12;
    private static final int MOST_LINES = 60;
    private static final int MOST_PARAMETERS = 7;
    private static final int MOST_FIELDS = 20;

    // what of the library the class needs; all of it stands in rule 4
    private static final Set<String> LIBRARY = Set.of("java/lang/Object.<init>", "java/lang/Math.max",
            "java/lang/Math.min", "java/lang/Math.abs", "java/lang/Integer.bitCount", "java/util/Arrays.fill");

    private static final String[] RULED_OUT = {
        "throw", "throws", "try", "catch", "synchronized", "assert", "package", "protected", "hashCode", "toString",
        "->", "::", "Exact", "HashMap", "Random", "System.currentTimeMillis", "System.nanoTime", "Thread"
    };

    public static void main(String[] args) throws IOException {
        for (Class<?> c : classes()) {
            theLibrary(c);
            staticState(c);
            sizes(c);
        }
        T.holds("some twelve classes at most", classes().size() <= MOST_CLASSES);
        methodsAreShort(Files.readAllLines(SOURCE));
        wordsRuledOut(Files.readString(SOURCE));
        T.end();
    }

    private static List<Class<?>> classes() {
        List<Class<?>> all = new ArrayList<>(List.of(WaxVoices.class));
        all.addAll(List.of(WaxVoices.class.getDeclaredClasses()));
        return all;
    }

    private static void theLibrary(Class<?> c) throws IOException {
        for (String call : callsOutside(c)) {
            T.holds(c.getName() + " calls " + call + ", which rule 4 has", LIBRARY.contains(call));
        }
    }

    private static void staticState(Class<?> c) {
        for (Field f : c.getDeclaredFields()) {
            if (!Modifier.isStatic(f.getModifiers())) continue;
            T.holds(f + " is a constant number", Modifier.isFinal(f.getModifiers()) && f.getType() == int.class);
        }
    }

    private static void sizes(Class<?> c) {
        int fields = 0;
        for (Field f : c.getDeclaredFields()) fields += Modifier.isStatic(f.getModifiers()) ? 0 : 1;
        T.holds(c + " has some twenty fields at most", fields <= MOST_FIELDS);
        for (Method m : c.getDeclaredMethods()) {
            T.holds(m + " takes seven at most", m.getParameterCount() <= MOST_PARAMETERS);
        }
    }

    /** A method begins at a line that ends in ") {" and no statement, and ends at the brace below it. */
    private static void methodsAreShort(List<String> lines) {
        Pattern begin = Pattern.compile("( {4}| {8})(?:public |private |static )*(?:[\\w\\[\\]]+ )?(\\w+)\\([^()]*\\) \\{");
        int methods = 0;
        for (int from = 0; from < lines.size(); from++) {
            Matcher m = begin.matcher(lines.get(from));
            if (!m.matches() || Set.of("if", "for", "while", "switch").contains(m.group(2))) continue;
            int to = from;
            while (to < lines.size() && !lines.get(to).equals(m.group(1) + "}")) to++;
            T.holds(m.group(2) + " is short", to - from + 1 <= MOST_LINES);
            methods++;
        }
        T.due("the methods and constructors that were found", methods, methodCount());
    }

    private static int methodCount() {
        int count = 0;
        for (Class<?> c : classes()) count += c.getDeclaredMethods().length + c.getDeclaredConstructors().length;
        return count;
    }

    private static void wordsRuledOut(String source) {
        String code = source.replaceAll("(?s)/\\*.*?\\*/", " ").replaceAll("//[^\n]*", " ");
        for (String word : RULED_OUT) {
            boolean isWord = Character.isLetter(word.charAt(0)) && !word.equals("Exact");
            Pattern pattern = Pattern.compile(isWord ? "\\b" + Pattern.quote(word) + "\\b" : Pattern.quote(word));
            T.holds("no " + word, !pattern.matcher(code).find());
        }
        Matcher imports = Pattern.compile("import ([^;]*);").matcher(code);
        while (imports.find()) {
            T.holds("import " + imports.group(1), imports.group(1).equals("java.util.Arrays"));
        }
    }

    /** The methods of other classes that a class file names; a lambda or a joining of texts by + as "invokedynamic". */
    private static Set<String> callsOutside(Class<?> c) throws IOException {
        Set<String> calls = new TreeSet<>();
        try (InputStream file = c.getResourceAsStream(c.getName() + ".class");
                DataInputStream in = new DataInputStream(file)) {
            in.skipNBytes(8);
            int count = in.readUnsignedShort();
            String[] texts = new String[count];
            int[][] pairs = new int[count][];
            List<Integer> methods = new ArrayList<>();
            for (int i = 1; i < count; i++) {
                int tag = in.readUnsignedByte();
                switch (tag) {
                    case 1 -> texts[i] = in.readUTF();
                    case 3, 4 -> in.skipNBytes(4);
                    case 5, 6 -> {
                        in.skipNBytes(8);
                        i++;
                    }
                    case 7, 8, 16, 19, 20 -> pairs[i] = new int[] {in.readUnsignedShort()};
                    case 9, 10, 11, 12, 17, 18 -> pairs[i] = new int[] {in.readUnsignedShort(), in.readUnsignedShort()};
                    case 15 -> in.skipNBytes(3);
                    default -> throw new IOException("tag " + tag);
                }
                if (tag == 10 || tag == 11) methods.add(i);
                if (tag == 17 || tag == 18) calls.add("invokedynamic");
            }
            for (int i : methods) {
                String owner = texts[pairs[pairs[i][0]][0]];
                if (!owner.startsWith("WaxVoices")) calls.add(owner + "." + texts[pairs[pairs[i][1]][0]]);
            }
        }
        return calls;
    }
}
