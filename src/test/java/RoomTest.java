import com.sun.management.ThreadMXBean;
import java.lang.management.ManagementFactory;
import java.lang.reflect.InvocationTargetException;
import java.lang.reflect.Method;
import java.lang.reflect.Modifier;
import java.util.function.IntConsumer;

/** Calls make next to nothing, and no call throws, whatever its arguments are. */
public final class RoomTest {
    private static final int CALLS = 512;
    /** An object, its history and its slots; the room of a run is more than twenty times as large. */
    private static final long MOST_BYTES = 400_000;
    private static final int[] EXTREMES = {Integer.MIN_VALUE, -16777216, -256, -1, 0, 1, 2, 7, 8, 15, 16, 23, 24, 48,
        63, 64, 99, 100, 255, 256, 999, 1000, 16777215, 16777216, Integer.MAX_VALUE - 1, Integer.MAX_VALUE};
    private static final long[] LONGS = {Long.MIN_VALUE, Long.MIN_VALUE + 1, -1, 0, 1, 'd', 0x643B64, 0x6431, 0x6800,
        1L << 32, 0x7E7E7E7E7E7E7E7EL, Long.MAX_VALUE};

    private final Check check = new Check("RoomTest");

    public static void main(String[] args) throws IllegalAccessException {
        RoomTest test = new RoomTest();
        test.room();
        test.noCallThrows(false);
        test.noCallThrows(true);
        test.check.end();
    }

    private void room() {
        ChalkSquares x = Scene.busy();
        stays("bestAwning", n -> x.bestAwning(12, 0));
        stays("lastsFor", n -> x.lastsFor());
        stays("bestMark", n -> x.bestMark(0));
        stays("set", n -> x.set(n % 6, n));
        stays("mend", n -> x.mend());
        stays("pass", n -> x.pass(48));
        stays("undo", n -> x.undo());
        stays("save", n -> x.save(n % 2));
        stays("restore", n -> x.restore(n % 2));
        stays("put", n -> x.put('d'));
        stays("carryOut", n -> {
            x.wipe();
            Scene.put(x, "d;h1");
            x.carryOut();
        });
        stays("a new object", n -> {
            if (n == 0) {
                Scene.busy();
            }
        });
    }

    private void stays(String what, IntConsumer call) {
        ThreadMXBean threads = (ThreadMXBean) ManagementFactory.getThreadMXBean();
        long thread = Thread.currentThread().getId();
        call.accept(0);
        long before = threads.getThreadAllocatedBytes(thread);
        for (int n = 0; n < CALLS; n++) {
            call.accept(n);
        }
        long made = threads.getThreadAllocatedBytes(thread) - before;
        check.holds(what + " makes " + made + " bytes in 512 calls", made < MOST_BYTES);
    }

    private void noCallThrows(boolean busy) throws IllegalAccessException {
        for (Method m : ChalkSquares.class.getDeclaredMethods()) {
            if (!Modifier.isPublic(m.getModifiers())) {
                continue;
            }
            ChalkSquares x = busy ? Scene.busy() : new ChalkSquares();
            int kinds = m.getParameterCount() == 1 && m.getParameterTypes()[0] == long.class
                ? LONGS.length : (int) Math.pow(EXTREMES.length, Math.min(m.getParameterCount(), 3));
            for (int kind = 0; kind < kinds; kind++) {
                answers(x, m, kind);
            }
        }
    }

    private void answers(ChalkSquares x, Method m, int kind) throws IllegalAccessException {
        Object[] arguments = new Object[m.getParameterCount()];
        int rest = kind;
        for (int i = 0; i < arguments.length; i++) {
            if (m.getParameterTypes()[i] == long.class) {
                arguments[i] = LONGS[kind];
            } else {
                // The fourth parameter of crowd() goes along with the first one.
                arguments[i] = EXTREMES[(i < 3 ? rest : kind) % EXTREMES.length];
                rest /= EXTREMES.length;
            }
        }
        try {
            m.invoke(x, arguments);
        } catch (InvocationTargetException e) {
            check.holds(m.getName() + java.util.Arrays.toString(arguments) + " threw " + e.getCause(), false);
        }
    }
}
