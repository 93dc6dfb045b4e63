import java.io.IOException;
import java.lang.reflect.Field;
import java.nio.file.Files;
import java.nio.file.Path;
import java.util.HashSet;
import java.util.Set;
import java.util.regex.Matcher;
import java.util.regex.Pattern;

/** What rule 12 of LANGUAGE.md says of constructors, which only the source shows: none hands out what it makes. */
public final class FormTest {
    private static final Due DUE = new Due();
    private static final Pattern STEP = Pattern.compile("(\\w*)\\s*\\(|\\)|\\w+(?!\\w)(\\s*\\.)?");
    private static final Set<String> NO_CALLS = Set.of("if", "for", "while", "switch", "return", "");

    public static void main(String[] args) throws IOException {
        found();
        String source = Files.readString(Path.of("src/main/java/BatchLinks.java"));
        String code = source.replaceAll("(?s)/\\*.*?\\*/|//[^\n]*", " ");
        constructors(code, BatchLinks.class);
        for (Class<?> inside : BatchLinks.class.getDeclaredClasses()) {
            constructors(code, inside);
        }
        DUE.end();
    }

    /** The test itself is tried first, since nothing that it looks for is in the class. */
    private static void found() {
        Set<String> parts = Set.of("tape", "this");
        DUE.is("a part", handedOut("tape = new Bytes(MAX); reader = new Reader(tape);", parts), "tape");
        DUE.is("the object", handedOut("first(1); Reader.look(2, this);", parts), "this");
        DUE.is("a part further inside", handedOut("x = new A(new B(1), look(tape));", parts), "tape");
        DUE.is("nothing", handedOut("if (tape != null) { size = look(tape.size()); }", parts), "");
        DUE.is("a parameter", handedOut("this.tape = tape; size = Math.max(room, 0);", parts), "");
    }

    private static void constructors(String code, Class<?> type) {
        Set<String> parts = new HashSet<>(Set.of("this"));
        for (Field field : type.getDeclaredFields()) {
            if (!field.getType().isPrimitive()) {
                parts.add(field.getName());
            }
        }
        Matcher head = Pattern.compile("(?<!new )\\b" + type.getSimpleName() + "\\([^()]*\\)\\s*\\{").matcher(code);
        while (head.find()) {
            DUE.is(head.group() + " hands out", handedOut(body(code, head.end()), parts), "");
        }
    }

    private static String body(String code, int start) {
        int open = 1;
        int end = start;
        while (end < code.length() && open > 0) {
            char sign = code.charAt(end);
            open += sign == '{' ? 1 : sign == '}' ? -1 : 0;
            end++;
        }
        return code.substring(start, end);
    }

    /** The first of the parts that stands by itself among the arguments of a call. */
    private static String handedOut(String body, Set<String> parts) {
        Matcher step = STEP.matcher(body);
        StringBuilder open = new StringBuilder();
        while (step.find()) {
            String word = step.group();
            if (word.endsWith("(")) {
                open.append(NO_CALLS.contains(step.group(1)) ? '-' : 'c');
            } else if (word.equals(")")) {
                open.setLength(Math.max(open.length() - 1, 0));
            } else if (open.indexOf("c") >= 0 && parts.contains(word)) {
                return word;
            }
        }
        return "";
    }
}
