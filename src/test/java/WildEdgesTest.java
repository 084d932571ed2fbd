import java.lang.reflect.InvocationTargetException;
import java.lang.reflect.Method;
import java.util.Arrays;
import java.util.Comparator;
import java.util.Random;

/** LANGUAGE.md, 7 and 13: no call throws, whatever it is asked in whatever state, and like calls answer alike. */
public final class WildEdgesTest {
    private static final Check CHECK = new Check();
    private static final int OBJECTS = 400;
    private static final int CALLS = 430;
    private static final int[] WILD = {
        Integer.MIN_VALUE, Integer.MIN_VALUE + 1, -1000000, -21, -14, -11, -5, -4, -2, -1, 0, 1, 2, 3, 4, 5, 6, 7, 8, 9,
        10, 11, 14, 19, 20, 21, 23, 24, 25, 30, 31, 32, 40, 41, 49, 70, 94, 126, 127, 128, 255, 256, 9999, 65536,
        1000000, Integer.MAX_VALUE - 24, Integer.MAX_VALUE - 9, Integer.MAX_VALUE - 1, Integer.MAX_VALUE
    };
    private static final String[] SLIDES = {
        "", "1111111111;p5,s20<3,c9,n12,k1", "4000000000;p1,p1,s20,k3,c2<7", "0^91^82^73^64^55^46^37^28^19;k9,k1,k20",
        "9999999999;s1,p20,n5,c3,k7", "0000000000", "2202202202;n5,n9,n14,n20,s7<1"
    };

    private final Random random;
    private final HelterSlide x = new HelterSlide();
    private final HelterSlide twin = new HelterSlide();

    private WildEdgesTest(int seed) {
        random = new Random(seed);
        String slide = SLIDES[seed % SLIDES.length];
        Check.told(x, slide);
        Check.told(twin, slide);
    }

    private static Method[] face() {
        Method[] all = Arrays.stream(HelterSlide.class.getMethods())
                .filter(m -> m.getDeclaringClass() == HelterSlide.class).toArray(Method[]::new);
        Arrays.sort(all, Comparator.comparing(Method::getName));
        return all;
    }

    /** Small ones come more often, so that calls are also taken and states go on. */
    private int number() {
        return random.nextInt(3) == 0 ? WILD[random.nextInt(WILD.length)] : random.nextInt(5);
    }

    private Object[] arguments(Method m) {
        Class<?>[] types = m.getParameterTypes();
        Object[] all = new Object[types.length];
        for (int i = 0; i < all.length; i++) {
            if (types[i] == long.class) {
                all[i] = random.nextBoolean() ? (long) number() : random.nextLong();
            } else {
                all[i] = number();
            }
        }
        return all;
    }

    private static long answer(HelterSlide of, Method m, Object[] arguments) {
        try {
            return ((Number) m.invoke(of, arguments)).longValue();
        } catch (InvocationTargetException e) {
            throw new IllegalStateException(m.getName() + Arrays.toString(arguments) + " threw " + e.getCause());
        } catch (IllegalAccessException e) {
            throw new IllegalStateException(e);
        }
    }

    private void run(Method[] face) {
        for (int i = 0; i < CALLS; i++) {
            Method m = face[random.nextInt(face.length)];
            Object[] arguments = arguments(m);
            String call = m.getName() + Arrays.toString(arguments);
            CHECK.due(call, answer(x, m, arguments), answer(twin, m, arguments));
        }
    }

    private static void all() {
        Method[] face = face();
        for (int seed = 0; seed < OBJECTS; seed++) {
            new WildEdgesTest(seed).run(face);
        }
    }

    public static void main(String[] args) {
        CHECK.sentence("No call may ever throw by itself for any arguments in any state", WildEdgesTest::all);
        CHECK.end("wild calls");
    }
}
