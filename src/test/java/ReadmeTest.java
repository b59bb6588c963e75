import java.io.IOException;
import java.lang.reflect.Method;
import java.lang.reflect.Modifier;
import java.nio.file.Files;
import java.nio.file.Path;
import java.util.HashMap;
import java.util.List;
import java.util.Map;
import java.util.TreeSet;
import java.util.regex.Matcher;
import java.util.regex.Pattern;

/** README.md: its example answers as it says, and it lists each call of the face with its exceptions. */
public final class ReadmeTest {
    private static final Pattern EXAMPLE_ROW =
            Pattern.compile("(?:int (\\w+) = )?league\\.(\\w+)\\((.*)\\); +// ([^ ,:]+).*");
    private static final Pattern CALL_ROW = Pattern.compile("- `(\\w+) (\\w+)\\((.*)\\)`: .*");
    private static final Pattern EXCEPTION_ROW = Pattern.compile("  - `(\\w+)` if .*");

    public static void main(String[] args) throws IOException {
        List<String> readme = Files.readAllLines(Path.of("README.md"));
        exampleAnswersAsItSays(readme);
        callsAreThoseOfTheFace(readme);
        Checks.end("README.md");
    }

    private static void exampleAnswersAsItSays(List<String> readme) {
        int first = readme.indexOf("```java") + 1;
        List<String> behind = readme.subList(first, readme.size());
        List<String> example = behind.subList(0, behind.indexOf("```"));
        Checks.due("the example's first row makes a league", example.get(0).startsWith("SkinLeague league = "), true);
        SkinLeague league = new SkinLeague();
        Map<String, Integer> values = new HashMap<>();
        TreeSet<String> told = new TreeSet<>();
        for (String row : example.subList(1, example.size())) {
            Matcher call = EXAMPLE_ROW.matcher(row);
            Checks.due("README.md can be read: " + row, call.matches(), true);
            if (call.matches()) {
                told.add(call.group(2));
                String got = Refused.answer(league, call.group(2), numbers(call.group(3), values));
                Checks.due("README.md: " + row, got.replace("throws.", ""), call.group(4));
                if (call.group(1) != null) {
                    values.put(call.group(1), Integer.valueOf(call.group(4)));
                }
            }
        }
        for (Method method : SkinLeague.class.getDeclaredMethods()) {
            if (Modifier.isPublic(method.getModifiers())) {
                Checks.due("the example tells " + method.getName(), told.contains(method.getName()), true);
            }
        }
    }

    private static int[] numbers(String args, Map<String, Integer> values) {
        if (args.isEmpty()) {
            return new int[0];
        }
        String[] words = args.split(", ");
        int[] numbers = new int[words.length];
        for (int i = 0; i < words.length; i++) {
            numbers[i] = values.containsKey(words[i]) ? values.get(words[i]) : Integer.parseInt(words[i]);
        }
        return numbers;
    }

    private static void callsAreThoseOfTheFace(List<String> readme) {
        TreeSet<String> want = new TreeSet<>();
        for (Method method : SkinLeague.class.getDeclaredMethods()) {
            if (Modifier.isPublic(method.getModifiers())) {
                StringBuilder call = new StringBuilder();
                call.append(method.getReturnType()).append(' ').append(method.getName());
                call.append(" of ").append(method.getParameterCount());
                for (Class<?> thrown : method.getExceptionTypes()) {
                    call.append(' ').append(thrown.getSimpleName());
                }
                want.add(call.toString());
            }
        }
        Checks.due("the calls of README.md", callsOf(readme).toString(), want.toString());
    }

    private static TreeSet<String> callsOf(List<String> readme) {
        TreeSet<String> calls = new TreeSet<>();
        String call = "";
        for (String row : readme.subList(readme.indexOf("### The calls"), readme.size())) {
            Matcher told = CALL_ROW.matcher(row);
            Matcher thrown = EXCEPTION_ROW.matcher(row);
            if (told.matches()) {
                calls.add(call);
                call = told.group(1) + " " + told.group(2) + " of "
                        + (told.group(3).isEmpty() ? 0 : told.group(3).split(", ").length);
            } else if (thrown.matches()) {
                call = call + " " + thrown.group(1);
            }
        }
        calls.add(call);
        calls.remove("");
        return calls;
    }
}
