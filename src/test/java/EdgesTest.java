import java.lang.reflect.InvocationTargetException;
import java.lang.reflect.Method;
import java.lang.reflect.Modifier;

/** No call throws, whatever its arguments are: every method with far and near numbers, in bare and in full towns. */
public final class EdgesTest {
    private static final int[] NUMBERS = {Integer.MIN_VALUE, Integer.MIN_VALUE + 1, -100000, -33, -2, -1, 0, 1, 3, 5, 6,
        11, 12, 15, 23, 24, 31, 32, 63, 64, 4095, 4096, 99999, 100000, 0xffffff, 0x1000000, Integer.MAX_VALUE - 1,
        Integer.MAX_VALUE};

    private static long state = 1;

    private EdgesTest() { }

    public static void main(String[] args) throws IllegalAccessException {
        for (int fill = 0; fill < 12; fill++) {
            for (Method m : OwnedByTwos.class.getDeclaredMethods()) {
                if (Modifier.isPublic(m.getModifiers())) {
                    callAll(town(fill), m);
                }
            }
        }
        dearest();
        Check.finish("EdgesTest");
    }

    private static int below(int n) {
        state = state * 6364136223846793005L + 1442695040888963407L;
        return (int) ((state >>> 33) % n);
    }

    private static OwnedByTwos town(int fill) {
        OwnedByTwos t = new OwnedByTwos();
        if (fill == 0) {
            return t;
        }
        for (int i = 0; i < 12; i++) {
            t.person(fill == 1 ? 99999 : 8000 * i);
            t.heir(i, i - 1);
        }
        for (int i = 0; i < 24; i++) {
            t.thing(i % 12, (i + 1 + below(11)) % 12, 999 - i);
            t.like(below(12), below(12), below(19) - 9);
        }
        for (int i = 0; i < 12; i++) {
            t.work(i, 0xf << below(21), 9999 - i, fill % 3 * i);
            t.row(i);
            if (fill > 6) {
                t.quarrel(below(12), below(12), true);
            }
        }
        Check.law(t, "yes like;price use+owns*worth-given;nods 1 if day=0;quarrel 500+near;peace 300-like*9");
        Check.law(t, "yes 1");
        Check.law(t, "price 65536*65536*65536*65536/0");
        t.image(0);
        if (fill % 4 == 3) {
            t.dies(below(12));
            t.does(1, below(12));
        }
        return t;
    }

    private static void callAll(OwnedByTwos t, Method m) throws IllegalAccessException {
        Class<?>[] kinds = m.getParameterTypes();
        for (int n = 0; n < (kinds.length < 2 ? 60 : 500); n++) {
            Object[] arguments = new Object[kinds.length];
            for (int i = 0; i < kinds.length; i++) {
                int number = below(3) == 0 ? NUMBERS[below(NUMBERS.length)] : below(5) - 1;
                arguments[i] = kinds[i] == boolean.class ? (Object) (number > 0) : (Object) number;
            }
            boolean threw = false;
            try {
                m.invoke(t, arguments);
            } catch (InvocationTargetException e) {
                threw = true;
                e.getCause().printStackTrace(System.out);
            }
            Check.due(m.getName() + " threw", threw, false);
        }
    }

    /** The dearest calls of all come to an end, each many times. */
    private static void dearest() {
        OwnedByTwos t = new OwnedByTwos();
        for (int i = 0; i < 12; i++) {
            t.person(99999);
        }
        for (int i = 0; i < 24; i++) {
            t.thing(i % 12, (i + 1 + i / 12) % 12, i);
        }
        for (int i = 0; i < 12; i++) {
            t.work(i, 1 << i | 1 << (i + 1) % 12 | 1 << 12 + i | 1 << 12 + (i + 7) % 12, 100 + i, i / 3);
        }
        String sum = "like+mate*worth/use-owns*coin+day-given*shared+near*year";
        Check.due("law", Check.law(t, "quarrel 500+" + sum + "*0;peace 400+" + sum + "*0;price " + sum), 0);
        for (int i = 0; i < 40; i++) {
            Check.due("runs", t.runs(0, 20, 20, i % 3) >= 0, true);
            Check.due("chain", t.chain(0, i % 12) >= -2, true);
            Check.due("least", t.least() > 0, true);
            Check.due("lay", t.lay(15, 15 << i % 9, -1) >= 0, true);
            Check.due("share", t.share(63 << i % 7, 5 + i % 7, 1) >= 1, true);
            Check.due("trades", t.trades() >= 0, true);
            Check.due("years", t.years(0, 60) >= 0, true);
        }
    }
}
