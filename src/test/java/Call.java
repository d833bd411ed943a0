import java.lang.reflect.InvocationTargetException;
import java.lang.reflect.Method;
import java.util.Arrays;
import java.util.HashMap;
import java.util.Map;

/** A call of the public face by its name, so that a table of calls can be played on several shops and told in words. */
final class Call {
    /** What stands for the answer of a call that threw: no call may answer it. */
    static final long THREW = Long.MIN_VALUE;

    private static final Map<String, Method> FACE = new HashMap<>();

    static {
        for (Method m : HardShop.class.getDeclaredMethods()) {
            FACE.put(m.getName(), m);
        }
    }

    private final String name;
    private final Object[] numbers;

    Call(String name, Object... numbers) {
        this.name = name;
        this.numbers = numbers;
    }

    long on(HardShop x) {
        try {
            return ((Number) FACE.get(name).invoke(x, numbers)).longValue();
        } catch (InvocationTargetException | IllegalAccessException thrown) {
            return THREW;
        }
    }

    @Override
    public String toString() {
        String told = Arrays.toString(numbers);
        return name + "(" + told.substring(1, told.length() - 1) + ")";
    }
}
