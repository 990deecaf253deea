import java.lang.reflect.InvocationTargetException;
import java.lang.reflect.Method;
import java.util.Arrays;
import java.util.Comparator;
import java.util.Random;

/**
 * Random calls with any arguments at all (fixed seed): a call throws nothing but what its signature names, never by
 * the machine, and a call that throws, or that asks, leaves the state as it was.
 */
final class WrongArgumentsTest {
    private static final Tester T = new Tester("WrongArgumentsTest");
    private static final String CHANGES = " subscribe redeem withdraw deal earn passDays crystallize merge transfer "
            + "setGate runScript undo parseFund ";
    private static final int[] EDGES = {Integer.MIN_VALUE, Integer.MIN_VALUE + 1, -9001, -9000, -401, -100, -2, -1, 0, 1,
        2, 3, 4, 5, 6, 7, 8, 9, 10, 11, 12, 39, 40, 41, 100, 101, 399, 400, 401, 9999, 10000, 9999999, 10000000, 99999999,
        100000000, Integer.MAX_VALUE - 1, Integer.MAX_VALUE};

    private final Random random = new Random(20261118);
    private final Method[] methods = SeriesFund.class.getDeclaredMethods();
    private final String[] texts = {"fund series 20 20 30;investors 3;subscribe 0 10000;subscribe 1 77;",
        "fund equal 9999 50 1;investors 6;subscribe 5 9999999;subscribe 2 19;subscribe 3 9;", "fund equal 1 2;",
        "deal;pass 5;gain 900;subscribe 0 500;deal;crystallize;merge;", "subscribe 0 19;redeem 0 3;deal;lose 9000;",
        "subscribe 0 9999999;subscribe 1 9999999;deal;pass 400;", "gain 9999;crystallize;lose 9000;subscribe 0 99;", ""};

    public static void main(String[] args) throws IllegalAccessException {
        new WrongArgumentsTest().run();
        T.end();
    }

    private void run() throws IllegalAccessException {
        Arrays.sort(methods, Comparator.comparing(Method::getName));
        for (int object = 0; object < 60; object++) {
            SeriesFund x = new SeriesFund();
            for (int i = 0; i < 512; i++) {
                if (random.nextInt(12) == 0) {
                    String text = texts[random.nextInt(texts.length)];
                    Tester.put(x, text);
                }
                call(x, methods[random.nextInt(methods.length)]);
            }
        }
    }

    private void call(SeriesFund x, Method method) throws IllegalAccessException {
        if (!java.lang.reflect.Modifier.isPublic(method.getModifiers())) {
            return;
        }
        Object[] values = new Object[method.getParameterCount()];
        for (int i = 0; i < values.length; i++) {
            int one = random.nextInt(3) == 0 ? EDGES[random.nextInt(EDGES.length)] : random.nextInt(6);
            one = random.nextInt(20) == 0 ? random.nextInt() : one;
            values[i] = method.getParameterTypes()[i] == long.class ? (Object) someLong(one) : (Object) one;
        }
        String before = Tester.stateOf(x) + x.undoDepth();
        boolean changes = CHANGES.contains(" " + method.getName() + " ");
        String name = method.getName() + Arrays.toString(values);
        try {
            Object answer = method.invoke(x, values);
            T.due(name + " is a number", !Double.isNaN(((Number) answer).doubleValue()), true);
        } catch (InvocationTargetException e) {
            Throwable thrown = e.getCause();
            T.due(name + " may throw " + thrown, Arrays.asList(method.getExceptionTypes()).contains(thrown.getClass())
                    && !String.valueOf(thrown.getMessage()).contains(" by zero"), true);
            changes = false;
        }
        if (!changes) {
            T.due("state after " + name, Tester.stateOf(x) + x.undoDepth(), before);
        }
    }

    private long someLong(int one) {
        switch (random.nextInt(4)) {
            case 0:
                return Long.MAX_VALUE;
            case 1:
                return Long.MIN_VALUE;
            default:
                return one;
        }
    }
}
