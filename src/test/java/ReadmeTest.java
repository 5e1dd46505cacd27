import java.io.IOException;
import java.lang.reflect.Method;
import java.lang.reflect.Modifier;
import java.nio.file.Files;
import java.nio.file.Path;
import java.util.Arrays;
import java.util.Set;
import java.util.TreeSet;
import java.util.regex.Matcher;
import java.util.regex.Pattern;

/** The example in README.md answers what its comments say, and uses each call of the face. */
public final class ReadmeTest {

    /** Before the comment's first colon stands the answer; a void method has none. */
    private static final Pattern LINE = Pattern.compile(
        "yard\\.(\\w+)\\(([-0-9, ]+)\\); *// (?:(-?[0-9]+|true|false|throws\\.\\w+): )?.+");

    public static void main(String[] args) throws IOException {
        Checks checks = new Checks();
        ForwardYard yard = new ForwardYard();
        Set<String> used = new TreeSet<>();
        for (String line : Files.readAllLines(Path.of("README.md"))) {
            if (line.startsWith("yard.")) {
                used.add(check(checks, yard, line));
            }
        }
        Set<String> face = new TreeSet<>();
        for (Method method : ForwardYard.class.getDeclaredMethods()) {
            if (Modifier.isPublic(method.getModifiers())) {
                face.add(method.getName());
            }
        }
        checks.due("the calls of the example", used, face);
        checks.finish();
    }

    /** The name of the call in this line. */
    private static String check(Checks checks, ForwardYard yard, String line) {
        Matcher parts = LINE.matcher(line);
        if (!parts.matches()) {
            checks.due(line, "a line of another form", "a call with a comment");
            return line;
        }
        int[] arguments = Arrays.stream(parts.group(2).split(", "))
            .mapToInt(Integer::parseInt).toArray();
        Object answer = new Call(parts.group(1), arguments).answerOf(yard);
        String told = answer == null ? null : answer.toString();
        checks.due("README: " + line, told, parts.group(3));
        return parts.group(1);
    }
}
