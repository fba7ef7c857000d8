import java.lang.reflect.Constructor;
import java.lang.reflect.Field;
import java.lang.reflect.Method;
import java.lang.reflect.Modifier;
import java.nio.file.Files;
import java.nio.file.Path;
import java.util.Arrays;
import java.util.Set;
import java.util.TreeSet;

/** The public face, the rules of the language that can be seen from outside, and wild arguments in many states. */
public final class FaceTest {
    private static final Check CHECK = new Check();
    private static final int[] WILD = {Integer.MIN_VALUE, -65536, -33, -5, -4, -3, -2, -1, 0, 1, 2, 3, 4, 5, 6, 7, 8, 9,
        10, 11, 12, 20, 24, 25, 31, 32, 40, 41, 60, 61, 63, 99, 100, 127, 255, 256, 9999, 10000, 65536,
        Integer.MAX_VALUE};

    public static void main(String[] args) throws Exception {
        constants();
        members();
        source();
        wildArguments();
        CHECK.end();
    }

    private static void constants() {
        CHECK.due("BAD", ButtressWall.BAD, -1);
        CHECK.due("NO", ButtressWall.NO, -2);
        CHECK.due("FULL", ButtressWall.FULL, -3);
        CHECK.due("NONE", ButtressWall.NONE, -4);
    }

    private static void members() {
        Class<?> face = ButtressWall.class;
        CHECK.holds("final and public", Modifier.isFinal(face.getModifiers()) && Modifier.isPublic(face.getModifiers()));
        Set<String> open = new TreeSet<>();
        for (Method method : face.getDeclaredMethods()) {
            if (!Modifier.isPrivate(method.getModifiers()) && !method.isSynthetic()) {
                open.add(method.getName() + method.getParameterCount());
            }
        }
        Set<String> due = new TreeSet<>(Arrays.asList(("write1 wipe0 fault0 lay0 bay2 buttress2 carts1 pass1 down1 up1 "
                + "send2 undo0 stands1 needed0 cuts0 roster2 place1 strong1 who2 knees2 shirkers2 night3 keep0 back0 "
                + "count1").split(" ")));
        CHECK.same("methods", open.toString(), due.toString());
        for (Field field : face.getDeclaredFields()) {
            boolean told = Set.of("BAD", "NO", "FULL", "NONE").contains(field.getName());
            CHECK.holds("field " + field.getName(), told || Modifier.isPrivate(field.getModifiers()));
            CHECK.holds("static " + field.getName(), !Modifier.isStatic(field.getModifiers())
                    || Modifier.isFinal(field.getModifiers()));
        }
        Constructor<?>[] constructors = face.getDeclaredConstructors();
        CHECK.due("constructors", constructors.length, 1);
        CHECK.due("parameters", constructors[0].getParameterCount(), 0);
        for (Class<?> inside : face.getDeclaredClasses()) {
            CHECK.holds("inside: " + inside, Modifier.isStatic(inside.getModifiers()));
            ownNames(inside, due);
        }
        ownNames(face, due);
    }

    /** No method beside the face bears the name of one of it, whatever it takes. */
    private static void ownNames(Class<?> type, Set<String> face) {
        for (Method method : type.getDeclaredMethods()) {
            boolean named = face.stream().anyMatch(call -> call.replaceAll("\\d", "").equals(method.getName()));
            CHECK.holds("name " + method, !named || Modifier.isPublic(method.getModifiers()));
        }
    }

    private static void source() throws Exception {
        String source = Files.readString(Path.of("src/main/java/ButtressWall.java"));
        for (String banned : new String[] {"import ", "catch", "->", "::", "synchronized", "assert", "finally",
            "\" +", "+ \"", "package ", "static {"}) {
            CHECK.holds("no " + banned, !source.contains(banned));
        }
        CHECK.holds("ASCII", source.chars().allMatch(c -> c < 128));
    }

    /** Every call with every wild argument: answers of wrong ones are BAD, none throws. */
    private static void wildArguments() throws Exception {
        String[] texts = {"", "b0,0;", "b9,0;f0,5,0,1;", "b9,2;b0,0;b50,0;f3,99,2,30;f1,5,0,1;f2,7,1,3;c1;c0;d1;"};
        Method[] methods = ButtressWall.class.getMethods();
        Arrays.sort(methods, (a, b) -> a.getName().compareTo(b.getName()));
        for (String text : texts) {
            for (Method method : methods) {
                if (method.getDeclaringClass() == ButtressWall.class) {
                    callWildly(method, text);
                }
            }
        }
    }

    private static void callWildly(Method method, String text) throws Exception {
        int count = method.getParameterCount();
        ButtressWall wall = text.isEmpty() ? new ButtressWall() : Check.laid(text);
        for (int i = 0; i < WILD.length * 3; i++) {
            Object[] arguments = new Object[count];
            for (int a = 0; a < count; a++) {
                arguments[a] = a == i % 3 % count ? WILD[i / 3] : 0;
            }
            int answer = (Integer) method.invoke(wall, arguments);
            CHECK.holds(method + " by " + Arrays.toString(arguments), answer >= -4);
            if (count > 0 && WILD[i / 3] == Integer.MIN_VALUE) {
                CHECK.due(method + " by " + Arrays.toString(arguments), answer, ButtressWall.BAD);
            }
        }
    }
}
