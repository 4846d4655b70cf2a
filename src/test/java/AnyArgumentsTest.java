import java.lang.reflect.InvocationTargetException;
import java.lang.reflect.Method;
import java.lang.reflect.Modifier;
import java.util.ArrayList;
import java.util.Arrays;
import java.util.Comparator;
import java.util.List;

/**
 * Each call of the face by whatever arguments, on objects of many states: none throws; what answers a
 * refusal's number is counted as just that one, and what doesn't is counted as none.
 */
public final class AnyArgumentsTest {
    private static final long[] NUMBERS = {Integer.MIN_VALUE, -1000, -2, -1, 0, 1, 2, 3, 5, 6, 7, 8, 10, 20, 21, 40, 41,
        60, 61, 200, 201, 255, 256, 999, 1000, Integer.MAX_VALUE};
    /** As many calls of each method on each state; all the arguments there are, if they are fewer. */
    private static final int TRIES = 700;
    /** Their answers may be any number. */
    private static final List<String> ANY_ANSWER = Arrays.asList("element", "seed", "status");

    private static int wrong = 0;
    private static long dice = 1118L;

    public static void main(String[] args) throws IllegalAccessException {
        Method[] face = faceByName();
        int state = 0;
        for (Bench.World world : states()) {
            for (Method m : face) {
                callAll(m, world, state);
            }
            state++;
        }
        System.out.println(wrong == 0 ? "any arguments are answered" : wrong + " calls are not as due");
        if (wrong != 0) {
            System.exit(1);
        }
    }

    private static Method[] faceByName() {
        List<Method> face = new ArrayList<>();
        for (Method m : ColdestSaysSo.class.getDeclaredMethods()) {
            if (Modifier.isPublic(m.getModifiers())) {
                face.add(m);
            }
        }
        face.sort(Comparator.comparing(Method::getName));
        return face.toArray(new Method[0]);
    }

    private static List<Bench.World> states() {
        List<Bench.World> all = new ArrayList<>();
        all.add(Bench.fresh());
        all.add(Bench.crowd());
        all.add(Bench.with(Bench.alike(8), AnyArgumentsTest::fillShelves, x -> x.image()));
        // What was kept has nobody, so that back takes those away whom SHELVES hold.
        all.add(Bench.with(Bench.fresh(), x -> x.image(), x -> x.person(4, 9, 20), x -> x.person(4, 0, 0),
                x -> x.give(0, 2, 40), x -> x.give(1, 1, 9), x -> x.tell(0, 40), x -> x.tell(1, 5),
                AnyArgumentsTest::fillShelves));
        all.add(Bench.with(Bench.of("person 3 9 20;brandy 0 9;person 5 0 0;air 0;fall 0;day 999;coal 9"),
                AnyArgumentsTest::fillTape, AnyArgumentsTest::fillShelves));
        return all;
    }

    private static long fillShelves(ColdestSaysSo x) {
        for (int s = 0; s < 5; s++) {
            x.row(s, s, s == 4 ? 0 : 40);
        }
        for (int i = 0; i < 40; i++) {
            x.set(0, i, i % 2 == 0 ? 1 : 0);
            x.set(1, i, i % 9);
            x.set(2, i, i - 3);
            x.set(3, i, (1L << 32) * i - 1);
        }
        x.show(5, 0);
        return x.show(6, 1);
    }

    private static long fillTape(ColdestSaysSo x) {
        for (int i = 0; i < 250; i++) {
            x.feed(i % 256);
        }
        return 1;
    }

    private static void callAll(Method m, Bench.World world, int state) throws IllegalAccessException {
        int arity = m.getParameterCount();
        long whole = 1;
        for (int i = 0; i < arity; i++) {
            whole *= NUMBERS.length;
        }
        ColdestSaysSo x = world.make();
        for (int k = 0; k < Math.min(TRIES, whole); k++) {
            // An object is for 512 calls: with the counts asked around each call, one is spent soon.
            if (k % 16 == 0) {
                x = world.make();
            }
            callOne(m, x, arguments(m, whole <= TRIES ? k : roll(whole)), state);
        }
    }

    private static long roll(long n) {
        dice = dice * 6364136223846793005L + 1442695040888963407L;
        return (dice >>> 20) % n;
    }

    private static Object[] arguments(Method m, long choice) {
        Object[] chosen = new Object[m.getParameterCount()];
        long left = choice;
        for (int i = 0; i < chosen.length; i++) {
            long v = NUMBERS[(int) (left % NUMBERS.length)];
            left /= NUMBERS.length;
            if (m.getParameterTypes()[i] == long.class) {
                chosen[i] = v == Integer.MIN_VALUE ? Long.MIN_VALUE : v;
            } else {
                chosen[i] = (int) v;
            }
        }
        return chosen;
    }

    private static int[] refusals(ColdestSaysSo x) {
        int[] many = new int[5];
        for (int i = 0; i < 5; i++) {
            many[i] = x.status(12 + i);
        }
        return many;
    }

    private static void callOne(Method m, ColdestSaysSo x, Object[] chosen, int state) throws IllegalAccessException {
        String call = "state " + state + ": " + m.getName() + Arrays.toString(chosen);
        int[] before = refusals(x);
        long got;
        try {
            got = ((Number) m.invoke(x, chosen)).longValue();
        } catch (InvocationTargetException thrown) {
            fail(call + " throws " + thrown.getCause());
            return;
        }
        boolean isRefused = !ANY_ANSWER.contains(m.getName()) && got < Bench.NONE;
        long number = m.getName().equals("country") && got <= -20 ? Bench.BAD : got;
        if (isRefused && (number > Bench.BAD || number < Bench.FULL)) {
            fail(call + " answered " + got + ", which is no answer");
        }
        int[] then = refusals(x);
        for (int i = 0; i < 5; i++) {
            int more = isRefused && number == Bench.BAD - i ? 1 : 0;
            if (then[i] != before[i] + more) {
                fail(call + " answered " + got + ", and status(" + (12 + i) + ") went from " + before[i] + " to " + then[i]);
            }
        }
    }

    private static void fail(String what) {
        if (wrong++ < 20) {
            System.out.println(what);
        }
    }
}
