import java.lang.reflect.InvocationTargetException;
import java.lang.reflect.Method;
import java.util.ArrayList;
import java.util.Arrays;
import java.util.Comparator;
import java.util.List;
import java.util.Random;

/** Calls with arguments far and near, in drawn order: no call throws anything but what its face tells. */
public final class ExtremesTest {
    private static final int[] ARGUMENTS = {Integer.MIN_VALUE, Integer.MIN_VALUE + 1, -1000, -2, -1, 0, 1, 2, 3, 4, 5, 6, 7,
        10, 14, 15, 29, 30, 31, 99, 100, 600, 899, 900, 901, 0x40000000, Integer.MAX_VALUE - 1, Integer.MAX_VALUE};
    private static final String[] TEXTS = {"", "cell 1 back 9;guest 3;likes:want*high;",
        "cell 1 back 9;cell 2 back 8;cell 3 back 7;guest 5;guest 6;worth:top-under;holds:high=3;likes:top-want*guest;",
        "cell 1 back 1;cell 2 back 2;cell 1 back 1;cell 2 back 2;cell 1 back 1;cell 2 back 2;holds:wide<3;"};

    public static void main(String[] args) throws IllegalAccessException {
        List<Method> calls = new ArrayList<>(Arrays.asList(NapkinDeeds.class.getDeclaredMethods()));
        calls.removeIf(m -> !java.lang.reflect.Modifier.isPublic(m.getModifiers()));
        calls.sort(Comparator.comparing(Method::getName));
        Random random = new Random(5);
        for (int run = 0; run < 200; run++) {
            NapkinDeeds x = new NapkinDeeds();
            tell(x, TEXTS[run % TEXTS.length]);
            for (int i = 0; i < 450; i++) {
                call(x, calls.get(random.nextInt(calls.size())), random);
            }
        }
        System.out.println("ExtremesTest: no call threw but as its face tells");
    }

    private static void tell(NapkinDeeds x, String text) {
        for (int i = 0; i < text.length(); i += 20) {
            int[] a = new int[5];
            for (int k = 0; k < 20; k++) {
                a[k / 4] = a[k / 4] << 8 | (i + k < text.length() ? text.charAt(i + k) : ' ');
            }
            x.feed(a[0], a[1], a[2], a[3], a[4]);
        }
        if (x.napkin(text.length()) < 0) {
            throw new AssertionError(text);
        }
    }

    private static void call(NapkinDeeds x, Method call, Random random) throws IllegalAccessException {
        Object[] a = new Object[call.getParameterCount()];
        for (int i = 0; i < a.length; i++) {
            int drawn = random.nextBoolean() ? random.nextInt(7) - 1 : ARGUMENTS[random.nextInt(ARGUMENTS.length)];
            if (call.getParameterTypes()[i] == long.class) {
                a[i] = random.nextInt(4) == 0 ? random.nextLong() : (long) drawn;
            } else {
                a[i] = drawn;
            }
        }
        try {
            call.invoke(x, a);
        } catch (InvocationTargetException e) {
            Class<?> kind = e.getCause().getClass();
            boolean told = Arrays.asList(call.getExceptionTypes()).contains(kind);
            if (!told || kind == RuntimeException.class) {
                System.out.println(call.getName() + Arrays.toString(a) + " threw " + e.getCause());
                System.exit(1);
            }
        }
    }
}
