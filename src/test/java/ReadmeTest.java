import java.io.IOException;
import java.lang.reflect.InvocationTargetException;
import java.lang.reflect.Method;
import java.lang.reflect.Modifier;
import java.nio.file.Files;
import java.nio.file.Path;
import java.util.ArrayList;
import java.util.List;
import java.util.regex.Matcher;
import java.util.regex.Pattern;

/** README.md tells each member of the document's face, and its example answers what it says. */
public final class ReadmeTest {
    private static final Check CHECK = new Check();
    private static final Pattern CALL = Pattern.compile("x\\.(\\w+)\\(([^)]*)\\); // (\\S+).*");
    private static final Pattern MEMBER = Pattern.compile("    public ([^;]+);");

    public static void main(String[] args) throws IOException, ReflectiveOperationException {
        String readme = Files.readString(Path.of("README.md"));
        for (String member : members(Files.readString(Path.of("../shared/DOC.md")))) {
            CHECK.that("README.md tells `" + member + "`", readme.contains("`" + member + "`"));
        }
        example(readme);
        CHECK.end();
    }

    private static List<String> members(String document) {
        List<String> found = new ArrayList<>();
        Matcher line = MEMBER.matcher(document);
        while (line.find()) {
            found.add(line.group(1));
        }
        CHECK.due("members of the face", found.size(), 19);
        return found;
    }

    private static void example(String readme) throws ReflectiveOperationException {
        SkiShots x = new SkiShots();
        StringBuilder called = new StringBuilder();
        Matcher call = CALL.matcher(readme);
        while (call.find()) {
            String[] words = call.group(2).split(", ");
            String got = answer(x, call.group(1), words);
            called.append(call.group(1)).append(' ');
            CHECK.that(call.group() + ", answered " + got, got.equals(call.group(3)));
        }
        for (Method method : SkiShots.class.getDeclaredMethods()) {
            boolean shown = !Modifier.isPublic(method.getModifiers())
                    || (" " + called).contains(" " + method.getName() + " ");
            CHECK.that("the example calls " + method.getName(), shown);
        }
    }

    private static String answer(SkiShots x, String name, String[] words) throws ReflectiveOperationException {
        Class<?>[] types = new Class<?>[words.length];
        Object[] numbers = new Object[words.length];
        for (int i = 0; i < words.length; i++) {
            types[i] = int.class;
            numbers[i] = words[i].equals("SkiShots.NONE") ? SkiShots.NONE : Integer.decode(words[i]);
        }
        try {
            return SkiShots.class.getMethod(name, types).invoke(x, numbers).toString();
        } catch (InvocationTargetException e) {
            return e.getCause().getClass().getSimpleName();
        }
    }
}
