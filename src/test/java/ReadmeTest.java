import java.io.IOException;
import java.lang.reflect.Method;
import java.nio.charset.StandardCharsets;
import java.nio.file.Files;
import java.nio.file.Path;
import java.util.ArrayList;
import java.util.List;
import java.util.TreeSet;
import java.util.regex.Matcher;
import java.util.regex.Pattern;
import java.util.stream.Stream;

/** Reads README.md in the working directory, makes the calls that it shows and compares the answers that it tells. */
public final class ReadmeTest {
    private static final Pattern NEW_OBJECT = Pattern.compile("ListingRow row = new ListingRow\\(\\);");
    private static final Pattern CALL =
        Pattern.compile("row\\.(\\w+)\\(([^()]*)\\); +// (BAD|NONE|THERE|FULL|-?\\d+|0x[0-9a-f]+L)(?:[,:] .+)?");
    private static final Pattern TEST_NAME = Pattern.compile("`(\\w+Test)`");

    private static int callsMade = 0;

    public static void main(String[] args) throws IOException, ReflectiveOperationException {
        List<String> lines = Files.readAllLines(Path.of("README.md"), StandardCharsets.UTF_8);
        TreeSet<String> shown = new TreeSet<>();
        for (String block : blocksOfJava(lines)) {
            run(block, shown);
        }
        Due.due("calls that were made, of those that README.md shows", callsMade, callsShown(lines));
        Due.due("the calls that README.md shows", shown.toString(), callsOfTheFace().toString());
        Due.due("the tests that README.md names", testsNamed(lines).toString(), testsThere().toString());
        Due.due("README.md tells how to run them", lines.contains(".ci/run") ? 1 : 0, 1);
        Due.end();
    }

    private static List<String> blocksOfJava(List<String> lines) {
        List<String> blocks = new ArrayList<>();
        StringBuilder block = null;
        for (String line : lines) {
            if (line.equals("```java") && block == null) {
                block = new StringBuilder();
            } else if (line.equals("```") && block != null) {
                blocks.add(block.toString());
                block = null;
            } else if (block != null) {
                block.append(line).append('\n');
            }
        }
        Due.due("every block of Java has an end", block == null ? 1 : 0, 1);
        return blocks;
    }

    /** A line that is neither a new object nor a call with its answer is a fault: nothing stays untested. */
    private static void run(String block, TreeSet<String> shown) throws ReflectiveOperationException {
        ListingRow row = null;
        int callsBefore = callsMade;
        for (String line : block.split("\n")) {
            Matcher call = CALL.matcher(line);
            if (NEW_OBJECT.matcher(line).matches()) {
                row = new ListingRow();
            } else if (row != null && call.matches()) {
                callsMade++;
                shown.add(call.group(1));
                Due.due("README.md: " + line + " the call", answerOf(row, call), number(call.group(3)));
            } else if (!line.isEmpty()) {
                Due.due("README.md: " + line, "is not understood", "is a new object or a call with its answer");
            }
        }
        Due.due("a block's calls are no more than an object is good for", callsMade - callsBefore <= 512 ? 1 : 0, 1);
    }

    private static long answerOf(ListingRow row, Matcher call) throws ReflectiveOperationException {
        String[] told = call.group(2).isEmpty() ? new String[0] : call.group(2).split(", ");
        Method method = methodOf(call.group(1));
        Class<?>[] types = method.getParameterTypes();
        if (types.length != told.length) {
            throw new IllegalStateException("README.md calls " + method + " with " + call.group(2));
        }
        Object[] values = new Object[told.length];
        for (int i = 0; i < told.length; i++) {
            values[i] = types[i] == long.class ? (Object) number(told[i]) : (Object) Math.toIntExact(number(told[i]));
        }
        return ((Number) method.invoke(row, values)).longValue();
    }

    private static Method methodOf(String name) {
        for (Method method : ListingRow.class.getDeclaredMethods()) {
            if (method.getName().equals(name)) {
                return method;
            }
        }
        throw new IllegalStateException("README.md shows " + name + ", which the class does not have");
    }

    private static long number(String text) {
        switch (text) {
            case "BAD": return ListingRow.BAD;
            case "NONE": return ListingRow.NONE;
            case "THERE": return ListingRow.THERE;
            case "FULL": return ListingRow.FULL;
            default: break;
        }
        if (text.startsWith("'")) {
            return text.charAt(1);
        }
        return Long.decode(text.endsWith("L") ? text.substring(0, text.length() - 1) : text);
    }

    /** Wherever they stand: a block that is not marked as Java would go untested. */
    private static int callsShown(List<String> lines) {
        int shown = 0;
        for (String line : lines) {
            shown += line.trim().startsWith("row.") ? 1 : 0;
        }
        return shown;
    }

    private static TreeSet<String> callsOfTheFace() {
        TreeSet<String> names = new TreeSet<>();
        for (Method method : ListingRow.class.getMethods()) {
            if (method.getDeclaringClass() == ListingRow.class) {
                names.add(method.getName());
            }
        }
        return names;
    }

    private static TreeSet<String> testsNamed(List<String> lines) {
        TreeSet<String> names = new TreeSet<>();
        for (String line : lines) {
            Matcher name = TEST_NAME.matcher(line);
            while (name.find()) {
                names.add(name.group(1));
            }
        }
        return names;
    }

    private static TreeSet<String> testsThere() throws IOException {
        TreeSet<String> names = new TreeSet<>();
        try (Stream<Path> files = Files.list(Path.of("src/test/java"))) {
            for (Path file : (Iterable<Path>) files::iterator) {
                String name = file.getFileName().toString();
                if (name.endsWith("Test.java")) {
                    names.add(name.substring(0, name.length() - ".java".length()));
                }
            }
        }
        return names;
    }
}
