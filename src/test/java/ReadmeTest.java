import java.io.IOException;
import java.lang.reflect.InvocationTargetException;
import java.lang.reflect.Method;
import java.lang.reflect.Modifier;
import java.nio.file.Files;
import java.nio.file.Path;
import java.util.regex.Matcher;
import java.util.regex.Pattern;

/** README.md, promises 1 to 13: the calls of its example answer what it tells, and it tells of every call. */
public final class ReadmeTest {
    /** A call of the example: its name, its arguments and, behind the slashes, its answer. */
    private static final Pattern CALL =
        Pattern.compile("^board\\.(\\w+)\\(([^)]*)\\);(?: +// ([\\w.-]+?)(?:: .*)?)?$", Pattern.MULTILINE);

    public static void main(String[] args) throws Exception {
        Check check = new Check();
        String readme = Files.readString(Path.of("README.md"));
        String example = example(readme);
        Matcher matcher = CALL.matcher(example);
        MazeBoard board = new MazeBoard();
        int calls = 0;
        while (matcher.find()) {
            calls++;
            String due = matcher.group(3) == null ? "null" : matcher.group(3);
            check.due("README.md: " + matcher.group(), answer(board, matcher.group(1), matcher.group(2)), due);
        }
        check.due("the example's lines behind the first", calls, example.trim().split("\n").length - 1);
        for (Method method : MazeBoard.class.getDeclaredMethods()) {
            if (Modifier.isPublic(method.getModifiers())) {
                check.holds("README.md calls " + method.getName(), example.contains("." + method.getName() + "("));
                check.holds("README.md tells of " + method.getName(), readme.contains("| `" + method.getName() + "("));
            }
        }
        check.holds("README.md tells how to run the tests", readme.contains("\n    .ci/run\n"));
        check.end();
    }

    private static String example(String readme) throws IOException {
        String begin = "```java\n";
        int from = readme.indexOf(begin);
        if (from < 0) {
            throw new IOException("README.md has no example");
        }
        from += begin.length();
        return readme.substring(from, readme.indexOf("```", from));
    }

    private static String answer(MazeBoard board, String name, String arguments)
        throws IllegalAccessException, InvocationTargetException {
        String[] words = arguments.isEmpty() ? new String[0] : arguments.split(", ");
        Object[] numbers = new Object[words.length];
        for (int i = 0; i < words.length; i++) {
            numbers[i] = Integer.valueOf(words[i]);
        }
        for (Method method : MazeBoard.class.getMethods()) {
            if (method.getName().equals(name) && method.getParameterCount() == numbers.length) {
                return String.valueOf(method.invoke(board, numbers));
            }
        }
        return "nothing: there is no such call";
    }
}
