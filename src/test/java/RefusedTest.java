import java.lang.reflect.InvocationTargetException;
import java.lang.reflect.Method;
import java.util.ArrayList;
import java.util.Arrays;
import java.util.Comparator;
import java.util.List;
import java.util.Set;

/**
 * Every call with numbers at and beyond every bound, in several states: none throws, a call that only
 * asks changes nothing, and neither does one that is refused. What is there is seen by calls alone.
 */
public final class RefusedTest {
    private static final Check CHECK = new Check();
    private static final Set<String> CHANGING = Set.of("feed", "end", "roll", "image", "back", "row", "write", "paste");
    private static final int STATES = 5;
    /** So many calls between two looks: with those that look, an object has no more than 512. */
    private static final int BATCH = 200;

    private static final long[] MANY = {
        Integer.MIN_VALUE, Integer.MIN_VALUE + 1, -2, -1, 0, 1, 2, 3, 4, 5, 7, 8, 9, 12, 13, 16, 17, 59, 60, 61, 180, 181, 200,
        201, 365, 366, 512, 999, 1000, 1200, 1201, 9999, 10000, 19682, 19683, 20000, 20001, 65536, 2000000000, 2000000001,
        Integer.MAX_VALUE - 1, Integer.MAX_VALUE};
    private static final long[] SOME = {
        Integer.MIN_VALUE, -1, 0, 1, 2, 3, 4, 8, 60, 61, 9999, 10000, 19682, 20000, 20001, Integer.MAX_VALUE};
    private static final long[] FEW = {Integer.MIN_VALUE, -1, 0, 1, 2, 3, 60, Integer.MAX_VALUE};
    private static final long[] WRITTEN = {Long.MIN_VALUE, -1, 0, 128, 65536, 1L << 32, Long.MAX_VALUE};

    public static void main(String[] args) throws IllegalAccessException {
        Method[] methods = LuckyTicket.class.getDeclaredMethods();
        Arrays.sort(methods, Comparator.comparing(Method::getName));
        for (Method method : methods) {
            if (java.lang.reflect.Modifier.isPublic(method.getModifiers())) {
                for (int state = 0; state < STATES; state++) {
                    List<Object[]> calls = calls(method);
                    changesNothing(method, CHANGING.contains(method.getName()) ? refused(method, calls, state) : calls, state);
                }
            }
        }
        CHECK.finish();
    }

    private static List<Object[]> calls(Method method) {
        Class<?>[] types = method.getParameterTypes();
        long[] numbers = types.length < 3 ? MANY : types.length == 3 ? SOME : FEW;
        List<Object[]> calls = new ArrayList<>();
        calls.add(new Object[types.length]);
        for (int i = 0; i < types.length; i++) {
            List<Object[]> more = new ArrayList<>();
            for (Object[] call : calls) {
                for (long number : types[i] == long.class ? WRITTEN : numbers) {
                    Object[] next = call.clone();
                    next[i] = types[i] == long.class ? (Object) number : (Object) (int) number;
                    more.add(next);
                }
            }
            calls = more;
        }
        return calls;
    }

    private static long call(LuckyTicket x, Method method, Object[] numbers) throws IllegalAccessException {
        try {
            return ((Number) method.invoke(x, numbers)).longValue();
        } catch (InvocationTargetException thrown) {
            CHECK.holds(method.getName() + Arrays.toString(numbers) + " threw " + thrown.getCause(), false);
            return 0;
        }
    }

    private static void changesNothing(Method method, List<Object[]> calls, int state) throws IllegalAccessException {
        List<Long> before = look(made(state));
        for (int from = 0; from < calls.size(); from += BATCH) {
            LuckyTicket x = made(state);
            for (int i = from; i < calls.size() && i < from + BATCH; i++) {
                call(x, method, calls.get(i));
            }
            CHECK.holds(method.getName() + " in state " + state + " changes nothing", look(x).equals(before));
        }
    }

    /** Those that are refused in a state; where a call that isn't may change that, the next one has a new object. */
    private static List<Object[]> refused(Method method, List<Object[]> calls, int state) throws IllegalAccessException {
        List<Object[]> refused = new ArrayList<>();
        boolean staysSo = method.getName().equals("write") || method.getName().equals("paste");
        LuckyTicket x = made(state);
        for (Object[] numbers : calls) {
            if (call(x, method, numbers) < 0) {
                refused.add(numbers);
            } else if (!staysSo) {
                x = made(state);
            }
        }
        return refused;
    }

    private static LuckyTicket made(int state) {
        LuckyTicket x = new LuckyTicket();
        if (state == 0) {
            return x;
        }
        x.image(1);
        tell(x, "roll length 2 base 3;law mirror;");
        x.image(0);
        tell(x, "roll length 1 base 2; law ?");
        x.end(0);
        if (state == 1) {
            tell(x, "roll length 3 base 2;law sum 1;law sum 9;law not by 1;");
        } else if (state == 2) {
            tell(x, "roll length 9 base 3;law half;law sum 18;law not by 0;");
        } else if (state == 3) {
            tell(x, "roll length 12 base 2;");
        } else {
            x.roll();
        }
        x.row(0, 0, 3);
        x.write(0, 1, 1);
        x.write(0, 2, -1);
        x.row(1, 3, 60);
        x.write(1, 59, 2);
        x.row(3, 0, 0);
        Check.feed(x, state == 1 ? "roll length 2 base 2;law sum 1;" : " ".repeat(1169) + "roll length 2 base 2;law sum 1;");
        return x;
    }

    private static void tell(LuckyTicket x, String text) {
        Check.feed(x, text);
        x.roll();
    }

    /** All that calls can see, what changes it last: the TAPE's text is read, IMAGES are gone back to. */
    private static List<Long> look(LuckyTicket x) {
        List<Long> seen = new ArrayList<>();
        lookAtRoll(x, seen);
        for (int slot = 0; slot < 4; slot++) {
            for (int law = 0; law < 3; law += 2) {
                seen.add((long) x.judge(slot, law));
                seen.add((long) x.kept(slot, law));
                seen.add((long) x.worn(slot, law, 2));
                seen.add((long) x.worn(slot, law, 3));
            }
            for (int other = 0; other < 4; other++) {
                seen.add((long) x.paste(slot, 0, other, 0, 0));
            }
            for (int size : new int[] {1, 2, 3, 4, 59, 60, 61}) {
                seen.add((long) x.paste(slot, size, slot, size, 0));
            }
        }
        seen.add((long) x.fault(0));
        seen.add((long) x.fault(1));
        seen.add((long) x.roll());
        seen.add((long) x.fault(1));
        lookAtRoll(x, seen);
        for (int k = 0; k < 3; k++) {
            seen.add((long) x.back(k));
            lookAtRoll(x, seen);
        }
        return seen;
    }

    private static void lookAtRoll(LuckyTicket x, List<Long> seen) {
        for (int what = 0; what < 8; what++) {
            seen.add((long) x.count(what));
        }
        for (int law = 0; law < 3; law++) {
            seen.add((long) x.many(law));
            seen.add((long) x.nth(law, 2));
        }
        for (int ticket = 0; ticket < 9; ticket++) {
            seen.add((long) x.laws(ticket));
        }
        seen.add((long) x.figure(5, 2));
        seen.add((long) x.laws(19682));
    }
}
