import java.lang.reflect.InvocationTargetException;
import java.lang.reflect.Method;
import java.lang.reflect.Modifier;
import java.util.Arrays;
import java.util.Comparator;
import java.util.function.Supplier;
import java.util.function.ToIntFunction;

/** Tries the boundaries of one promise: each static method of a test that takes a Bounds is one, and bears its name. */
final class Bounds {
    static final int BAD = ButtressWall.BAD, NO = ButtressWall.NO, FULL = ButtressWall.FULL, NONE = ButtressWall.NONE;
    /** Far outside of every range that is told. */
    static final int[] FAR = {Integer.MIN_VALUE, -65536, -256, 65536, 1 << 30, Integer.MAX_VALUE};

    private final Check check = new Check();
    private final String promise;
    private String boundary = "";

    private Bounds(String promise) {
        this.promise = promise;
    }

    static void tryAll(Class<?> test) {
        Bounds due = new Bounds(test.getSimpleName());
        Method[] methods = test.getDeclaredMethods();
        Arrays.sort(methods, Comparator.comparing(Method::getName));
        int tried = 0;
        for (Method method : methods) {
            boolean boundary = Modifier.isStatic(method.getModifiers())
                    && Arrays.equals(method.getParameterTypes(), new Class<?>[] {Bounds.class});
            if (boundary) {
                due.tryOne(method);
                tried++;
            }
        }
        due.boundary = "boundaries";
        due.holds("there are some", tried > 0);
        due.check.end();
    }

    private void tryOne(Method method) {
        boundary = method.getName();
        try {
            method.invoke(null, this);
        } catch (InvocationTargetException thrown) {
            holds("threw " + thrown.getCause(), false);
        } catch (IllegalAccessException closed) {
            holds("is private: " + closed.getMessage(), false);
        }
    }

    void is(String call, int got, int want) {
        check.due(promise + ", " + boundary + ": " + call, got, want);
    }

    void same(String what, String got, String want) {
        check.same(promise + ", " + boundary + ": " + what, got, want);
    }

    void holds(String what, boolean so) {
        check.holds(promise + ", " + boundary + ": " + what, so);
    }

    /** The call is answered so, and leaves the wall, what can be UNDONE, what is KEPT and the text as they were. */
    void refused(String call, Supplier<ButtressWall> made, ToIntFunction<ButtressWall> asked, int want) {
        is(call, asked.applyAsInt(made.get()), want);
        changesNothing(call, made, asked);
    }

    /** Each time on new objects: undoing, going back and laying change what they tell of. */
    void changesNothing(String call, Supplier<ButtressWall> made, ToIntFunction<ButtressWall> asked) {
        same(call + " leaves the wall", Told.whole(behind(made, asked)), Told.whole(made.get()));
        same(call + " leaves what can be UNDONE", Told.undone(behind(made, asked)), Told.undone(made.get()));
        same(call + " leaves what is KEPT", Told.kept(behind(made, asked)), Told.kept(made.get()));
        same(call + " leaves the text", Told.text(behind(made, asked)), Told.text(made.get()));
    }

    private static ButtressWall behind(Supplier<ButtressWall> made, ToIntFunction<ButtressWall> asked) {
        ButtressWall x = made.get();
        asked.applyAsInt(x);
        return x;
    }
}
