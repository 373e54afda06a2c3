import java.io.IOException;
import java.lang.reflect.Method;
import java.lang.reflect.Modifier;
import java.nio.file.Files;
import java.nio.file.Path;
import java.util.ArrayList;
import java.util.List;
import java.util.Set;
import java.util.TreeSet;
import java.util.regex.Matcher;
import java.util.regex.Pattern;

/** The example of README.md answers what README.md says, and it and the table show each call of the face. */
public final class ReadmeTest {
    private static final Pattern CALL = Pattern.compile("guide\\.(\\w+)\\((.*)\\); +// (true|false|WAITS|-?\\d+)(: .*)?");
    private static final Pattern ARGUMENT = Pattern.compile("'(.)'|-?\\d+");

    public static void main(String[] args) throws IOException, ReflectiveOperationException {
        String readme = Files.readString(Path.of("README.md"));
        int from = readme.indexOf("```java");
        int to = readme.indexOf("```", from + 1);
        Probe.due("there is an example", from >= 0 && to > from, true);
        Set<String> shown = makeCalls(readme.substring(from, to));
        for (Method method : TagGuide.class.getMethods()) {
            if (method.getDeclaringClass() == TagGuide.class && Modifier.isPublic(method.getModifiers())) {
                Probe.due("the example has " + method.getName(), shown.contains(method.getName()), true);
                Probe.due("the table has " + method.getName(), readme.contains("`" + method.getName() + "("), true);
            }
        }
        Probe.end();
    }

    /** Makes the calls of the example, and tells the names of those that it made. */
    private static Set<String> makeCalls(String example) throws ReflectiveOperationException {
        TagGuide guide = new TagGuide();
        Set<String> shown = new TreeSet<>();
        for (String line : example.split("\n")) {
            if (!line.startsWith("guide.")) {
                continue;
            }
            Matcher call = CALL.matcher(line);
            boolean readable = call.matches();
            Probe.due("can be read: " + line, readable, true);
            if (readable) {
                shown.add(call.group(1));
                String want = call.group(3).equals("WAITS") ? "" + TagGuide.WAITS : call.group(3);
                Probe.due(line, "" + answerOf(guide, call.group(1), argumentsOf(call.group(2))), want);
            }
        }
        return shown;
    }

    private static List<Object> argumentsOf(String written) {
        List<Object> arguments = new ArrayList<>();
        Matcher argument = ARGUMENT.matcher(written);
        while (argument.find()) {
            if (argument.group(1) != null) {
                arguments.add(argument.group(1).charAt(0));
            } else {
                arguments.add(Integer.valueOf(argument.group()));
            }
        }
        return arguments;
    }

    private static Object answerOf(TagGuide guide, String name, List<Object> arguments) throws ReflectiveOperationException {
        for (Method method : TagGuide.class.getMethods()) {
            if (method.getName().equals(name) && method.getDeclaringClass() == TagGuide.class) {
                return method.invoke(guide, arguments.toArray());
            }
        }
        return "no such call";
    }
}
