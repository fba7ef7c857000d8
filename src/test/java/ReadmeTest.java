import java.lang.reflect.Method;
import java.lang.reflect.Modifier;
import java.nio.file.Files;
import java.nio.file.Path;
import java.util.ArrayList;
import java.util.List;
import java.util.regex.Matcher;
import java.util.regex.Pattern;

/** README.md tells of every call with as many numbers as it takes, and its example answers as it says. */
public final class ReadmeTest {
    private static final Check CHECK = new Check();
    private static final Pattern EXAMPLE = Pattern.compile("```java\n(.*?)```", Pattern.DOTALL);
    private static final Pattern WRITTEN = Pattern.compile("\"([^\"]*)\"\\.toCharArray");
    private static final Pattern ANSWERED = Pattern.compile("wall\\.(\\w+)\\(([-\\d, ]*)\\);\\s*// (-?\\w+):");
    private static final Pattern ROW = Pattern.compile("(?m)^\\| `(\\w+)\\(([\\w, ]*)\\)` \\|");

    public static void main(String[] args) throws Exception {
        String readme = Files.readString(Path.of("README.md"));
        everyCallIsTold(readme);
        theExampleAnswersAsItSays(readme);
        CHECK.end();
    }

    private static int numbersIn(String list) {
        return list.isBlank() ? 0 : list.split(",").length;
    }

    private static void everyCallIsTold(String readme) {
        List<String> told = new ArrayList<>();
        for (Matcher row = ROW.matcher(readme); row.find();) {
            told.add(row.group(1) + numbersIn(row.group(2)));
        }
        List<String> calls = new ArrayList<>();
        for (Method method : ButtressWall.class.getDeclaredMethods()) {
            if (Modifier.isPublic(method.getModifiers())) {
                calls.add(method.getName() + method.getParameterCount());
            }
        }
        told.sort(null);
        calls.sort(null);
        CHECK.same("the calls that README.md tells of", told.toString(), calls.toString());
    }

    private static void theExampleAnswersAsItSays(String readme) throws Exception {
        Matcher example = EXAMPLE.matcher(readme);
        CHECK.holds("there is an example", example.find());
        Matcher text = WRITTEN.matcher(example.group(1));
        CHECK.holds("it writes a text", text.find());
        ButtressWall wall = new ButtressWall();
        Check.write(wall, text.group(1));
        int answers = 0;
        for (Matcher line = ANSWERED.matcher(example.group(1)); line.find(); answers++) {
            String call = line.group(1) + "(" + line.group(2) + ")";
            CHECK.due(call, ask(wall, line.group(1), line.group(2)), answer(line.group(3)));
        }
        CHECK.holds("it tells answers", answers > 0);
    }

    private static int ask(ButtressWall wall, String name, String list) throws Exception {
        Class<?>[] types = new Class<?>[numbersIn(list)];
        Object[] numbers = new Object[types.length];
        for (int i = 0; i < types.length; i++) {
            types[i] = int.class;
            numbers[i] = Integer.valueOf(list.split(",")[i].trim());
        }
        return (Integer) ButtressWall.class.getMethod(name, types).invoke(wall, numbers);
    }

    private static int answer(String told) throws Exception {
        boolean number = told.matches("-?\\d+");
        return number ? Integer.parseInt(told) : ButtressWall.class.getField(told).getInt(null);
    }
}
