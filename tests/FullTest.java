import java.lang.reflect.InvocationTargetException;
import java.lang.reflect.Method;

/** No call throws: not with all places taken, nor with any numbers in any state. */
public final class FullTest {
    private static final Check C = new Check("Full");
    private static final int[] NUMBERS = {Integer.MIN_VALUE, -1001, -15, -1, 0, 1, 2, 3, 4, 5, 6, 7, 8, 9, 10, 12, 13, 15, 16, 17, 30, 38, 39, 40, 60, 239, 240,
        999, 1000, 3239, 4000, 10000, 53239, 59999, 60000, 99999, 333333, 333334, 1000000, Integer.MAX_VALUE};

    public static void main(String[] args) throws IllegalAccessException, InvocationTargetException {
        odd(new BoxLeaves(), 1);
        odd(full(), 2);
        BoxLeaves x = full();
        C.due("keep", x.keep(), 1);
        C.due("again", x.again(), 1);
        answers(x);
        C.end();
    }

    /** All that is counted told as often as it can be. */
    private static BoxLeaves full() {
        BoxLeaves x = new BoxLeaves();
        C.due("the longest text", Check.readText(x, "free if " + Check.times("not ", 51) + "month>0;"), 0);
        for (int i = 0; i < 24; i++) {
            x.must(4095);
            x.way(i % 6, 4095);
            x.way(i % 6, 4095);
            x.way(i % 6, 4094);
            x.claim(i % 8 * 100 + i % 4 * 10 + 1 + i % 9, 2 + 4 * (i % 2), 239, i % 9 - 1);
            x.join(i % 8, true);
            x.word(i % 16, i % 5 == 0);
            x.boxes(i % 6 * 10000 + i % 4 * 1000, 999);
            x.leave(i % 6, 99, 0, 239, i % 3 == 0);
            x.paid(i % 6, 0, 1);
            x.drawn(i % 6 * 10000 + i % 4 * 1000, 9999, 9999);
            x.like(9999, 1);
            x.swear(i % 16, 0);
            x.swear(i % 16, 1);
            if (i < 5) Check.readText(x, "rate 999 over 1 rate 998 over 2 rate 997 over 3 rate 999;interest 999;land 0 pays 999;share by worth;land 1 pays 999;");
        }
        StringBuilder b = new StringBuilder("free if land=4");
        while (b.length() < 205) b.append(" or land=4");
        Check.feedText(x, b.toString());
        for (int s = 0; s < 4; s++) {
            x.sheet(s, s, 40);
            x.shelf(s, s, 0);
        }
        x.prove(0);
        return x;
    }

    private static void answers(BoxLeaves x) {
        int[] due = {0, 16, 20, 6, 4096, 6, 24, 8, 16, 12, 8, 8};
        for (int what = 0; what < due.length; what++) C.due("many(" + what + ")", x.many(what), what == 4 ? x.many(4) : due[what]);
        long all = 0;
        for (int o = 0; o < 8; o++) all += x.share(o, 0, 0);
        C.due("all shares are the sum", all, x.sum(0, 0));
        C.holds("it is great: " + all, all > 1000000);
        C.due("judge", x.judge(0), 0);
        C.holds("the ring", x.ring(0, 99999) == 255);
        for (int m = 0; m < 6; m++) {
            C.holds("back of all", x.back(m, 239) > 0);
            C.holds("under", x.under(m, 0) > 0);
        }
        C.due("the text that is read last", x.read() < -200 ? 1 : 0, 1);
    }

    /** Each method with each pair of odd numbers in two places, the others taken from the row, too. */
    private static void odd(BoxLeaves start, int step) throws IllegalAccessException, InvocationTargetException {
        BoxLeaves x = start;
        int n = 0, at = 0;
        for (Method m : BoxLeaves.class.getDeclaredMethods()) {
            if (!java.lang.reflect.Modifier.isPublic(m.getModifiers())) continue;
            Class<?>[] types = m.getParameterTypes();
            for (int i = 0; i < NUMBERS.length * NUMBERS.length; i++) {
                Object[] values = new Object[types.length];
                for (int j = 0; j < types.length; j++) {
                    int v = j == 0 ? NUMBERS[i % NUMBERS.length] : j == 1 ? NUMBERS[i / NUMBERS.length] : NUMBERS[(at += 7) % NUMBERS.length];
                    values[j] = types[j] == boolean.class ? (Object) (v % 2 == 0) : types[j] == long.class ? (Object) (v * 4294967297L) : (Object) v;
                }
                try {
                    m.invoke(x, values);
                } catch (InvocationTargetException e) {
                    C.holds(m.getName() + java.util.Arrays.toString(values) + " answers and does not throw " + e.getCause(), false);
                }
                if (++n % 400 == 0) x = step == 1 ? new BoxLeaves() : full();
            }
        }
        C.holds("calls", n > 70000);
    }
}
