import com.sun.management.ThreadMXBean;
import java.lang.management.ManagementFactory;
import java.lang.reflect.InvocationTargetException;
import java.lang.reflect.Method;
import java.util.Random;

/** No call ever throws, whatever its arguments are, and none makes objects behind the constructor. */
public final class HardyTest {
    private static final int[] ODD = {Integer.MIN_VALUE, Integer.MIN_VALUE + 1, -10000, -33, -32, -31, -10, -9, -8, -7, -6,
        -5, -4, -3, -2, -1, 0, 1, 2, 3, 4, 5, 6, 7, 8, 9, 10, 11, 12, 13, 15, 19, 20, 21, 29, 30, 31, 32, 33, 59, 60, 61, 63,
        64, 255, 511, 512, 1023, 1024, 1599, 1600, 4095, 4096, 65535, 2000000000, 2000000001, Integer.MAX_VALUE};
    private static final String GUEST = "guest from 0 to 19 luggage 99;";
    private static final String FULL = "inn rooms 10 nights 20;" + "key 0 1 2;key 3 4 5;key 6 7 8;key 9 0 5;".repeat(3)
            + "door 0 to 1;door 2 to 3;door 4 to 5;door 6 to 7;".repeat(2) + GUEST.repeat(4)
            + "guest from 0 to 9 luggage 1;".repeat(5) + "trust 0 1 2 3 4 5 6 7 8;trust 1 0 2 3 4 5 6 7 8;trust 2 0 1 3;";

    public static void main(String[] args) throws Exception {
        Method[] methods = KeyInn.class.getDeclaredMethods();
        java.util.Arrays.sort(methods, java.util.Comparator.comparing(Method::toString));
        for (int seed = 0; seed < 200; seed++) {
            wild(methods, new Random(seed), seed);
        }
        lean();
        Due.finish();
    }

    private static void wild(Method[] methods, Random random, int seed) throws Exception {
        KeyInn x = new KeyInn();
        if (seed % 2 == 0) {
            Due.is("lines", Due.tell(x, FULL), 12 + 8 + 9 + 3 + 1);
        }
        for (int i = 0; i < 512; i++) {
            Method m = methods[random.nextInt(methods.length)];
            if (!java.lang.reflect.Modifier.isPublic(m.getModifiers()) || m.getName().equals("inn") && random.nextInt(20) != 0) {
                continue;
            }
            Object[] given = new Object[m.getParameterCount()];
            for (int j = 0; j < given.length; j++) {
                Class<?> type = m.getParameterTypes()[j];
                int odd = random.nextBoolean() ? ODD[random.nextInt(ODD.length)] : random.nextInt(10);
                given[j] = type == long.class ? (Object) ((long) odd * odd) : type == boolean.class ? (Object) (odd % 2 == 0) : (Object) odd;
            }
            try {
                m.invoke(x, given);
            } catch (InvocationTargetException e) {
                e.getCause().printStackTrace(System.out);
                Due.is(seed + " " + m.getName() + " throws", 1, 0);
            }
        }
    }

    /** The dearest calls of a full inn, 512 of them, make next to nothing. */
    private static void lean() {
        ThreadMXBean bean = (ThreadMXBean) ManagementFactory.getThreadMXBean();
        KeyInn x = new KeyInn();
        Due.tell(x, FULL);
        x.row(0, 3, 60);
        for (int i = 0; i < 20; i++) {
            x.theft(i % 10, i);
        }
        for (int turn = 0; turn < 2; turn++) {
            long before = bean.getCurrentThreadAllocatedBytes();
            long sum = 0;
            for (int i = 0; i < 16; i++) {
                sum += x.book(0, 0, 0) + x.give(1) + x.still(2) + x.most(12) + x.ways(12) + x.lay(12, 3) + x.spare(12);
                sum += x.full(12) + x.rings(12, 0) + x.next(12, 1) + x.worst(1) + x.fewest(1, 1) + x.gang(0) + x.round(1);
                sum += x.rounds(99, 0) + x.loops() + x.leave(3, 0) + x.shut(3, 1) + x.calm() + x.judge(0) + x.then(0, 1);
                sum += x.season(i) + x.seasons(i, 20, 0) + x.keep(1) + x.back(1) + x.row(1, 2, 60) + x.paste(0, 0, 0, 1, 5);
                sum += x.feed(1, 2, 3, 4, 5) + x.end(0) + x.off(0) + x.risk(2) + x.unsafe(2, 1) + x.fears(1, 1);
            }
            long made = bean.getCurrentThreadAllocatedBytes() - before;
            Due.is("bytes made are many (" + made + ", " + sum + ")", turn == 1 && made > 4096 ? 1 : 0, 0);
        }
    }
}
