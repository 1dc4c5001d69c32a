import java.lang.reflect.Method;
import java.util.ArrayList;
import java.util.Comparator;
import java.util.List;

/**
 * What the tests share: one town at a time, short ways to use it, and what is due. A test is a
 * method whose name begins with the promise that it is about.
 */
abstract class Bench {
    static final int NONE = -1, BAD = -2, FULL = -3;
    static final int MIN = Integer.MIN_VALUE, MAX = Integer.MAX_VALUE;
    static final int PROMISED_CALLS = 512;

    static CountedTown x;
    private static String test = "";
    private static int wrong = 0;
    private static boolean beyond;

    // ---- running tests

    /** Runs every method of a class whose name begins with "promise". */
    static void runAll(Class<?> tests) throws ReflectiveOperationException {
        List<Method> methods = new ArrayList<>();
        for (Method m : tests.getDeclaredMethods()) {
            if (m.getName().startsWith("promise")) methods.add(m);
        }
        methods.sort(Comparator.comparing(Method::getName));
        for (Method m : methods) {
            test = m.getName();
            beyond = false;
            m.invoke(null);
            leaveTown();
        }
        System.out.println(methods.size() + " tests: "
                + (wrong == 0 ? "all answers are as due" : wrong + " answers are not as due"));
        if (wrong != 0) System.exit(1);
    }

    /** The bound that the test is about lies behind the 512th call, where nothing is promised. */
    static void goBeyondWhatIsPromised() {
        beyond = true;
    }

    private static void leaveTown() {
        if (x != null && x.calls > PROMISED_CALLS && !beyond) {
            fault("the test makes " + x.calls + " calls");
        }
        x = null;
    }

    static void fault(String what) {
        wrong++;
        System.out.println(test + ": " + what);
    }

    static void due(String what, int got, int want) {
        if (got != want) fault(what + " answered " + got + ", due is " + want);
    }

    static void dueText(String what, String got, String want) {
        if (!got.equals(want)) fault(what + " is\n  " + got + ", due is\n  " + want);
    }

    // ---- a town, and what its people do

    static void town(int circuits, int reserved) {
        leaveTown();
        x = new CountedTown(circuits, reserved);
    }

    static void keys(int... keys) {
        for (int k : keys) x.key(k);
    }

    static int row(int exchange, int length, int kind, int arg, int zone, int... prefix) {
        keys(prefix);
        return x.plan(exchange, length, kind, arg, zone);
    }

    /** 2 i is line i of each exchange, 3 leads to the other one, 7 is group 0, 8 room 0. */
    static void usualPlan() {
        for (int e = 0; e < 2; e++) {
            for (int i = 0; i < 8; i++) row(e, 2, 0, 8 * e + i, 0, 2, i);
            row(e, 3, 1, 1, 1, 3);
            row(e, 1, 3, 0, 0, 7);
            row(e, 1, 4, 0, 0, 8);
        }
    }

    static void usualTown(int circuits) {
        town(circuits, 0);
        usualPlan();
    }

    static void lift(int line) {
        x.hook(line, true);
        x.tick(1);
    }

    static void hang(int line) {
        x.hook(line, false);
        x.tick(40);
    }

    /** The loop is open for so many ticks, and then closed for so many. */
    static void pulse(int line, int open, int closed) {
        x.hook(line, false);
        x.tick(open);
        x.hook(line, true);
        x.tick(closed);
    }

    static void flash(int line) {
        pulse(line, 10, 1);
    }

    static void dialAll(int line, int... keys) {
        for (int k : keys) x.dial(line, k);
        x.tick(keys.length);
    }

    static void call(int line, int... keys) {
        lift(line);
        dialAll(line, keys);
    }

    /** The caller calls line i of its own exchange by 2 i, and that one answers. */
    static void talk(int caller, int i) {
        call(caller, 2, i);
        lift(caller / 8 * 8 + i);
    }

    static void ticksUntil(int now) {
        for (int left = now - x.told(0); left > 0; left -= 1000) x.tick(Math.min(left, 1000));
    }

    // ---- units

    static String bits(int exchange, int n) {
        StringBuilder all = new StringBuilder();
        for (int k = 0; k < 256; k++) {
            int b = x.bit(exchange, n, k);
            if (b == NONE) break;
            all.append(b);
        }
        return all.toString();
    }

    /** The bits of a unit, as they are due. */
    static String text(int bsn, int bib, int fsn, int fib, int... message) {
        return textTelling(message.length, bsn, bib, fsn, fib, message);
    }

    /** The same, but its third byte (how many bytes the message has, and the two 0) is told. */
    static String textTelling(int told, int bsn, int bib, int fsn, int fib, int... message) {
        int[] body = new int[message.length + 5];
        body[0] = bsn + 128 * bib;
        body[1] = fsn + 128 * fib;
        body[2] = told;
        System.arraycopy(message, 0, body, 3, message.length);
        // CHECK is taken eight bits at a time.
        int r = 65535;
        for (int i = 0; i < body.length - 2; i++) {
            r ^= body[i];
            for (int j = 0; j < 8; j++) r = (r & 1) == 1 ? (r >> 1) ^ 33800 : r >> 1;
        }
        body[body.length - 2] = (65535 - r) & 255;
        body[body.length - 1] = (65535 - r) >> 8;
        StringBuilder all = new StringBuilder();
        for (int b : body) for (int j = 0; j < 8; j++) all.append((b >> j) & 1);
        return "01111110" + all.toString().replace("11111", "111110") + "01111110";
    }

    /** Spoils unit n so that it comes as another one; what is behind that one's end is free. */
    static void turnInto(int exchange, int n, String sent, String due) {
        for (int k = 0; k < due.length(); k++) {
            if (due.charAt(k) != sent.charAt(k)) x.spoil(exchange, n, k);
        }
    }
}
