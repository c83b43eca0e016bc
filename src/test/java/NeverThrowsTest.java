import java.lang.management.ManagementFactory;
import java.lang.reflect.InvocationTargetException;
import java.lang.reflect.Method;
import java.util.ArrayList;
import java.util.List;
import java.util.Random;

/** No call throws, for any arguments in any state, and none but the constructor makes anything. */
final class NeverThrowsTest {
    private static final int[] EDGES = {Integer.MIN_VALUE, Integer.MIN_VALUE + 1, -100, -3, -2, -1, 0, 1, 2, 3, 4, 5, 6, 7,
        8, 9, 10, 11, 20, 21, 40, 41, 59, 60, 61, 200, 999, 1000, 2000, 2001, Integer.MAX_VALUE - 1, Integer.MAX_VALUE};
    private static final String[] TEXTS = {"",
        "thing a 1 1 0; thing b 2 2 1; thing c 3 3 2; thing d 4 4 3; thing e 5 5 4; thing f 6 6 5; thing g 7 7 9;"
            + "pattern p 7; pattern q 9 9 9 9 9 9 9 5; pattern r 0; pattern s 8 0 8 0 8 0 8 0; pattern t 5 3 1;"
            + "tires = height * weight / (up - 3); drops = 5 + tired / 90; force = edge - caught; pays = beat / hand;",
        "thing a 1 1 0; pattern p 0 0; drops = 9999 * 9999 * 9999 * 9999;", "pattern p 1 2 3 4 5 6 7 8;",
        "tires = ((((((1 + (", "thing a 9 9 9; thing b 9 9 9; rests 99; seed 9999; tires = 1024 * 1024 * 2048 / (0 - 1);"};

    private static final Check CHECK = new Check();
    private static final Random RANDOM = new Random(7);

    public static void main(String[] args) throws IllegalAccessException {
        List<Method> calls = new ArrayList<>();
        for (Method method : StateJuggler.class.getDeclaredMethods()) {
            if (java.lang.reflect.Modifier.isPublic(method.getModifiers())) {
                calls.add(method);
            }
        }
        for (int run = 0; run < 300; run++) {
            StateJuggler x = new StateJuggler();
            for (int call = 0; call < 500; call++) {
                if (call % 100 == 0) {
                    Check.put(x, TEXTS[RANDOM.nextInt(TEXTS.length)]);
                    x.read();
                }
                one(x, calls.get(RANDOM.nextInt(calls.size())));
            }
        }
        makesNothing();
        CHECK.end();
    }

    private static void one(StateJuggler x, Method method) throws IllegalAccessException {
        Object[] args = new Object[method.getParameterCount()];
        for (int i = 0; i < args.length; i++) {
            boolean truth = method.getParameterTypes()[i] == boolean.class;
            args[i] = truth ? (Object) RANDOM.nextBoolean() : (Object) EDGES[RANDOM.nextInt(EDGES.length)];
        }
        try {
            method.invoke(x, args);
            CHECK.due(method.getName(), 0, 0);
        } catch (InvocationTargetException e) {
            CHECK.due(method.getName() + java.util.Arrays.toString(args) + " threw " + e.getCause(), 0, 1);
        }
    }

    /** The dearest calls of a run, 512 times: bytes made by this thread, measured by the machine. */
    private static void makesNothing() {
        com.sun.management.ThreadMXBean bean = (com.sun.management.ThreadMXBean) ManagementFactory.getThreadMXBean();
        StateJuggler x = new StateJuggler();
        Check.put(x, TEXTS[1]);
        x.read();
        dearest(x);
        long before = bean.getThreadAllocatedBytes(Thread.currentThread().getId());
        for (int i = 0; i < 32; i++) {
            dearest(x);
        }
        long made = bean.getThreadAllocatedBytes(Thread.currentThread().getId()) - before;
        CHECK.due("made " + made + " bytes in 32 rounds", true, made < 4096);
    }

    private static void dearest(StateJuggler x) {
        x.feed(0x72657374, 0x7320313b, 0x20202020, 0x20202020, 0x20202020);
        x.back(3);
        x.set(3);
        x.beats(60);
        x.undo();
        x.undo();
        x.hold(1);
        x.restore(1);
        x.into(0, -1);
        x.ways(5, 7, 3, 0);
        x.joined(0, 1, 1);
        x.limit(999);
        x.down();
        x.year(60, 20);
        x.light(60, 1);
        x.tell(3, true);
        x.watch(0);
        x.forget();
        x.back(17);
    }
}
