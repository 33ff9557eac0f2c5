import java.lang.reflect.Method;
import java.lang.reflect.Modifier;

/** Whatever a call is given, in whatever state: it answers, and the machine never throws. */
public final class MisuseTest {
    private static final int[] ODD = {Integer.MIN_VALUE, -1, 0, 1, 12, 100, Integer.MAX_VALUE};
    private static final Check CHECK = new Check("MisuseTest");

    public static void main(String[] args) {
        for (Method method : WindWords.class.getDeclaredMethods()) {
            if (Modifier.isPublic(method.getModifiers())) {
                withAll(method, new WindWords());
                withAll(method, full());
            }
        }
        wrongOnesTellNothing();
        CHECK.end();
    }

    /** An object in which there is no more room for anything. */
    private static WindWords full() {
        WindWords x = Check.crew(16);
        for (int k = 1; k <= 60; k++) {
            x.signs(k % 12, k % 16, 10 * k);
        }
        for (int k = 0; k < 300; k++) {
            x.read(k % 12, k / 12, 100 * (k % 5) + k % 100, k % 4, k % 13);
        }
        for (int k = 0; k < 8; k++) {
            Check.scale(x, "sea 3 from 9; leaf 12 from 0 if not (rig=1 or depth>2) and year<" + k + "; canvas 1 from 99;", k);
        }
        for (int k = 0; k < 16; k++) {
            Check.habits(x, k, "lean up 1 if number > 3 or spars = 0; write 3 for 5;");
        }
        for (int k = 0; k < 4; k++) {
            x.image();
        }
        x.storm(0, 24, 2, 6);
        while (x.feed(ODD[0], ODD[1], 0, 1, ODD[6]) > 0) {
            CHECK.same("fed", x.count(12) > 0, true);
        }
        return x;
    }

    private static void withAll(Method method, WindWords x) {
        Class<?>[] types = method.getParameterTypes();
        Object[] given = new Object[types.length];
        int all = 1;
        for (int k = 0; k < types.length; k++) {
            all *= ODD.length;
        }
        boolean isDear = all > 3000;
        for (int n = 0; n < all; n += isDear ? 3 : 1) {
            int left = n;
            for (int k = 0; k < types.length; k++) {
                int value = ODD[left % ODD.length];
                left /= ODD.length;
                if (types[k] == int.class) {
                    given[k] = value;
                } else {
                    given[k] = value > 0;
                }
            }
            call(method, x, given);
        }
    }

    private static void call(Method method, WindWords x, Object[] given) {
        try {
            method.invoke(x, given);
            CHECK.same(method.getName(), 0, 0);
        } catch (ReflectiveOperationException e) {
            CHECK.same(method.getName() + java.util.Arrays.toString(given) + ": " + e.getCause(), 1, 0);
        }
    }

    /** Calls that only ask change no count. */
    private static void wrongOnesTellNothing() {
        WindWords x = full();
        int[] before = new int[14];
        for (int k = 0; k < 14; k++) {
            before[k] = x.count(k);
        }
        for (int a : ODD) {
            for (int b : ODD) {
                Check.askAll(x, a, b);
                x.storm(a, b, a, b);
            }
        }
        for (int k = 0; k < 14; k++) {
            CHECK.same("33: count(" + k + ") after asking", x.count(k), before[k]);
        }
        CHECK.same("33: the rooms are full", before[0] + before[1] + before[2] + before[3] + before[6] + before[11] + before[12],
                16 + 12 + 300 + 8 + 60 + 4 + 900);
    }
}
