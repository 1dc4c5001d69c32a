import java.util.ArrayList;
import java.util.Arrays;
import java.util.List;
import java.util.Random;
import java.util.Set;
import java.util.TreeSet;

/**
 * Runs of calls chosen by seeds, on the class and on PlainTown: every answer must be the same.
 * Afterwards it is looked whether the runs came through all that PlainTown tells apart.
 */
public final class RandomRunsTest {
    private static final int RUNS = 400, STEPS = 160;

    private static final String[] TO_BE_SEEN = {
        "acm", "anm ringing", "anm sent", "asked again", "away", "barred", "both took it", "busy",
        "charge day", "charge night", "dialling time", "first charge day", "first charge night",
        "flash", "flash answers", "flash with none", "forward always", "forward busy",
        "forward other", "forward without answer", "forwarded wrongly", "goes again",
        "group full", "group rings", "hang with other", "iam clearing", "iam in", "iam out",
        "iam wrong", "line rings", "loud room", "lost", "malformed", "malformed iam",
        "malformed size", "no credit first", "no credit later", "none idle",
        "not disturb", "nothing is done 2", "nothing is done 3", "nothing is done 4",
        "nothing is done 5", "odd bsn", "other over", "other rings", "over 1", "over 2", "over 3",
        "over 4", "over 5", "over 6", "over 7", "over 8", "over 9", "pulsed key", "rel clearing",
        "rel in", "rel out", "reserved", "ringing time", "rlc", "room by circuit", "room by line",
        "room full", "sent", "served", "spoiled", "tandem", "too many forwards",
        "too many pulses", "turned", "waiting time", "waits"};

    private static final Set<String> seen = new TreeSet<>();

    private final int seed;
    private final Random random;
    private final int circuits, reserved;
    private final CountedTown town;
    private final PlainTown plain;
    private final List<List<int[]>> numbers = List.of(new ArrayList<>(), new ArrayList<>());
    private String wrong;

    private RandomRunsTest(int seed) {
        this.seed = seed;
        random = new Random(seed);
        circuits = random.nextInt(4) == 0 ? 1 + random.nextInt(18) : 1 + random.nextInt(4);
        reserved = random.nextInt(3) == 0 ? random.nextInt(4) - 1 : 0;
        town = new CountedTown(circuits, reserved);
        plain = new PlainTown(circuits, reserved);
    }

    public static void main(String[] args) {
        int runs = args.length > 0 ? Integer.parseInt(args[0]) : RUNS;
        int first = args.length > 1 ? Integer.parseInt(args[1]) : 1;
        int failed = 0;
        for (int seed = first; seed < first + runs; seed++) {
            RandomRunsTest run = new RandomRunsTest(seed);
            run.go();
            seen.addAll(run.plain.seen);
            if (run.wrong != null) {
                failed++;
                System.out.println("seed " + seed + ": " + run.wrong);
            }
        }
        Set<String> missed = new TreeSet<>(Arrays.asList(TO_BE_SEEN));
        missed.removeAll(seen);
        if (!missed.isEmpty() && runs >= RUNS) {
            failed++;
            System.out.println("never came: " + missed);
        }
        System.out.println(failed == 0 ? "all answers are as due" : failed + " runs failed");
        if (failed != 0) System.exit(1);
    }

    // ---- one call on both

    private int ask(int... call) {
        int due = plain.ask(call);
        int got = town.ask(call);
        if (got != due && wrong == null) {
            wrong = "call " + Arrays.toString(call) + " at " + plain.now + " answered " + got
                    + ", due is " + due;
        }
        return due;
    }

    private void compareAll() {
        for (int l = 0; l < 16; l++) {
            for (int what = 0; what < 9; what++) ask(15, l, what);
            ask(16, l);
            ask(17, l);
        }
        for (int e = 0; e < 2; e++) {
            for (int c = 0; c < plain.circuits; c++) {
                ask(18, e, c);
                ask(19, e, c);
            }
            for (int g = 0; g < 3; g++) {
                ask(20, e, g, 0);
                ask(20, e, g, 1);
            }
            ask(21, e, 0);
            ask(21, e, 1);
            for (int what = 0; what < 7; what++) ask(22, e, what);
            int unit = plain.now - 1 - random.nextInt(66);
            for (int k = -1; k < 220; k++) ask(23, e, unit, k);
        }
        for (int i = plain.records.size() - 3; i <= plain.records.size(); i++) {
            for (int what = 0; what < 5; what++) ask(24, i, what);
        }
        ask(24, plain.records.size() - 300, 0);
        ask(24, plain.records.size() - 301, 0);
        for (int what = 0; what < 5; what++) ask(25, what);
    }

    private void ticks(int n) {
        ask(14, n);
        compareAll();
    }

    // ---- a run

    private void go() {
        setUp();
        for (int i = 0; i < STEPS && wrong == null; i++) step();
    }

    private int some(int... of) {
        return of[random.nextInt(of.length)];
    }

    private int anyLine() {
        return random.nextInt(16);
    }

    private void row(int e, int[] prefix, int length, int kind, int arg) {
        for (int k : prefix) ask(0, k);
        int n = ask(2, e, length, kind, arg, random.nextInt(4));
        if (n < 0) {
            ask(1);
            return;
        }
        for (int i = 0; i < 2; i++) {
            int[] number = Arrays.copyOf(prefix, length);
            for (int j = prefix.length; j < length; j++) number[j] = random.nextInt(4);
            numbers.get(e).add(number);
        }
    }

    private void setUp() {
        for (int e = 0; e < 2; e++) {
            for (int i = 0; i < 8; i++) {
                if (random.nextInt(5) > 0) row(e, new int[] {2, i}, 2, 0, 8 * e + i);
            }
            for (int g = 0; g < 3; g++) if (random.nextInt(3) > 0) row(e, new int[] {7, g}, 2, 3, g);
            for (int r = 0; r < 2; r++) if (random.nextInt(3) > 0) row(e, new int[] {8, r}, 2, 4, r);
            for (int i = 0; i < 4; i++) farRow(e);
            row(e, new int[] {10, 10}, 12, 2, 0);
            row(e, new int[] {11, 11}, 4, 2, 2);
            for (int i = 0; i < 4; i++) {
                int[] prefix = new int[1 + random.nextInt(3)];
                for (int j = 0; j < prefix.length; j++) prefix[j] = random.nextInt(12);
                row(e, prefix, random.nextInt(6), random.nextInt(5), random.nextInt(16));
            }
        }
        for (int i = 0; i < 12; i++) ask(3, random.nextInt(3), anyLine());
        for (int i = 0; i < 6; i++) {
            ask(4, i / 3, i % 3, random.nextInt(3) == 0 ? 0 : random.nextInt(11));
        }
        for (int i = random.nextInt(20); i > 0; i--) setting();
    }

    /** A number by which a number of the other exchange, or a far one of it, is reached. */
    private void farRow(int e) {
        int[] prefix = {some(3, 4, 5, 6), random.nextInt(3)};
        List<int[]> there = numbers.get(1 - e);
        int[] target = there.isEmpty() ? new int[] {2, random.nextInt(8)}
                : there.get(random.nextInt(there.size()));
        int length = 2 + target.length;
        if (length > 12) return;
        for (int k : prefix) ask(0, k);
        if (ask(2, e, length, some(1, 1, 2), 2, random.nextInt(4)) < 0) {
            ask(1);
            return;
        }
        int[] number = Arrays.copyOf(prefix, length);
        System.arraycopy(target, 0, number, 2, target.length);
        numbers.get(e).add(number);
        number = Arrays.copyOf(prefix, length);
        for (int j = 2; j < length; j++) number[j] = random.nextInt(10);
        numbers.get(e).add(number);
    }

    private int[] number(int e) {
        List<int[]> all = numbers.get(e);
        if (all.isEmpty() || random.nextInt(12) == 0) {
            return new int[] {random.nextInt(12), random.nextInt(12)};
        }
        return all.get(random.nextInt(all.size()));
    }

    private void setting() {
        switch (random.nextInt(7)) {
            case 0:
                ask(5, anyLine(), random.nextInt(3), random.nextInt(2));
                break;
            case 1:
                ask(5, anyLine(), 2, 1);
                break;
            case 2:
            case 3:
                int l = anyLine();
                if (random.nextInt(4) > 0) for (int k : number(l / 8)) ask(0, k);
                ask(6, l, random.nextInt(3));
                break;
            case 4:
                ask(7, random.nextInt(4), random.nextInt(30), some(1, 7, 50, 100, 333, 1000),
                        random.nextInt(20), random.nextInt(20));
                break;
            case 5:
                ask(8, anyLine(), some(-1, 0, 5, 30, 100, 1000));
                break;
            default:
                ask(4, random.nextInt(2), random.nextInt(3), random.nextInt(11));
                break;
        }
    }

    private void step() {
        int choice = random.nextInt(100);
        int l = anyLine();
        if (choice < 22) {
            callSomebody(l);
        } else if (choice < 30) {
            ask(9, l, 1);
            ticks(1 + random.nextInt(3));
        } else if (choice < 40) {
            answerSomebody();
        } else if (choice < 48) {
            ask(9, l, 0);
            ticks(some(40, 41, 60));
        } else if (choice < 56) {
            ask(9, l, 0);
            ticks(some(1, 9, 10, 15, 39, 40));
            ask(9, l, 1);
            ticks(some(1, 1, 2, 25));
        } else if (choice < 60) {
            pulses(l);
        } else if (choice < 68) {
            ask(11, l, random.nextInt(16001) - 8000);
            ticks(1);
        } else if (choice < 74) {
            setting();
        } else if (choice < 80) {
            trouble();
        } else if (choice < 84) {
            forge();
        } else if (choice < 85) {
            crowd();
        } else if (choice < 86) {
            if (random.nextBoolean()) fillRoom();
            else queueUp();
        } else if (choice < 88) {
            secondCall();
        } else if (choice < 89) {
            badCalls();
        } else if (choice < 90) {
            ask(9, l, 1);
            ticks(1);
            for (int i = 0; i < 22; i++) ask(10, l, random.nextInt(12));
            ticks(1 + random.nextInt(5));
        } else {
            ticks(some(1, 1, 2, 3, 5, 10, 20, 50, 100, 200, 300, 301, 500, 600, 1000));
        }
    }

    private void callSomebody(int l) {
        ask(9, l, 1);
        ticks(1);
        int[] number = number(l / 8);
        for (int k : number) ask(10, l, k);
        if (random.nextInt(3) == 0) {
            int other = (l + 8) % 16;
            ask(9, other, 1);
            ticks(1);
            for (int k : number(other / 8)) ask(10, other, k);
        }
        ticks(number.length + some(0, 0, 1, 2, 5, 10));
    }

    private void answerSomebody() {
        int start = anyLine();
        for (int i = 0; i < 16; i++) {
            int l = (start + i) % 16;
            if (plain.line(l, 1) == 5) {
                ask(9, l, 1);
                ticks(some(1, 1, 5));
                return;
            }
            if (plain.line(l, 3) != 0) {
                ask(9, l, 0);
                ticks(12);
                ask(9, l, 1);
                ticks(some(1, 1, 5));
                return;
            }
        }
    }

    private void pulses(int l) {
        ask(9, l, 1);
        ticks(1);
        int[] number = number(l / 8);
        int digits = 1 + random.nextInt(3);
        for (int d = 0; d < digits && d < number.length; d++) {
            int count = number[d] == 0 ? 10 : number[d];
            for (int i = 0; i < count; i++) {
                ask(9, l, 0);
                ticks(some(1, 3, 9));
                ask(9, l, 1);
                ticks(some(1, 3));
            }
            ticks(20);
        }
    }

    /** Many lines go to one place. */
    private void crowd() {
        int e = random.nextInt(2);
        int[] number = number(e);
        for (int i = 0; i < 8; i++) ask(9, 8 * e + i, 1);
        ticks(1);
        for (int i = 0; i < 8; i++) for (int k : number) ask(10, 8 * e + i, k);
        ticks(number.length + 8);
        if (random.nextInt(3) == 0) {
            for (int i = 0; i < 8; i++) ask(11, 8 * e + i, some(8000, -8000, 5000));
            ticks(3);
        }
        if (random.nextInt(4) == 0) for (int i = 0; i < 4; i++) ticks(1000);
    }

    /** All lines of an exchange, and some of the other one, go to one room. */
    private void fillRoom() {
        int e = random.nextInt(2), r = random.nextInt(2);
        for (int l = 0; l < 16; l++) ask(9, l, 0);
        ticks(60);
        for (int l = 0; l < 16; l++) ask(9, l, 1);
        ticks(1);
        for (int l = 0; l < 16; l++) {
            int[] number = l / 8 == e ? new int[] {8, r} : new int[] {11, 11, 8, r};
            for (int k : number) ask(10, l, k);
            ask(11, l, random.nextInt(16001) - 8000);
        }
        for (int i = 0; i < 20; i++) ticks(1);
    }

    /** Lines come to a group in another order than their calls were made, and leave it again. */
    private void queueUp() {
        int e = random.nextInt(2), g = random.nextInt(3);
        ask(4, e, g, 10);
        ask(0, 7);
        ask(0, g);
        if (ask(2, e, 2, 3, g, 0) < 0) ask(1);
        for (int l = 8 * e; l < 8 * e + 8; l++) ask(9, l, 0);
        ticks(60);
        int first = 8 * e + random.nextInt(3);
        ask(3, g, 8 * e);
        ask(3, g, 8 * e + 1);
        for (int l = first; l < 8 * e + 8; l++) {
            ask(9, l, 1);
            if (random.nextBoolean()) ticks(1);
        }
        ticks(1);
        for (int i = 0; i < 14; i++) {
            int l = first + random.nextInt(8 * e + 8 - first);
            if (plain.line(l, 1) != 1) continue;
            ask(10, l, 7);
            ask(10, l, g);
            ticks(2);
        }
        for (int i = 0; i < 16; i++) {
            int l = 8 * e + random.nextInt(8);
            if (random.nextBoolean()) {
                ask(9, l, random.nextInt(2));
                ticks(some(1, 40));
            }
            ticks(some(1, 20, 100, 250, 300));
        }
    }

    /** A line that talks is called by another one, and may forward that. */
    private void secondCall() {
        int e = random.nextInt(2);
        int a = 8 * e, b = a + 1 + random.nextInt(3), c = a + 4 + random.nextInt(4);
        for (int l = a; l < a + 8; l++) ask(9, l, 0);
        ticks(60);
        for (int what = 0; what < 2; what++) ask(5, b, what, 0);
        ask(6, b, 0);
        ask(5, b, 2, 1);
        if (random.nextInt(3) > 0) {
            for (int k : number(e)) ask(0, k);
            ask(6, b, 2);
        }
        for (int caller : new int[] {a, c}) {
            ask(9, caller, 1);
            ticks(1);
            ask(10, caller, 2);
            ask(10, caller, b % 8);
            ticks(2);
            ask(9, b, 1);
            ticks(1);
        }
        for (int i = 0; i < 6; i++) {
            if (random.nextInt(3) == 0) {
                int l = some(a, b, c);
                ask(9, l, 0);
                ticks(some(12, 40));
                ask(9, l, 1);
            }
            ticks(some(1, 5, 100, 300));
        }
    }

    private void trouble() {
        int count = 1 + random.nextInt(6);
        for (int i = 0; i < count; i++) {
            int n = plain.now + random.nextInt(12);
            if (random.nextBoolean()) ask(13, random.nextInt(2), n);
            else ask(12, random.nextInt(2), n, random.nextInt(90));
        }
        if (random.nextInt(8) == 0) {
            int e = random.nextInt(2);
            for (int i = 0; i < 300; i++) ask(13, e, plain.now + i);
        }
        if (random.nextInt(8) == 0) {
            for (int i = 0; i < 302; i++) {
                ask(12, random.nextInt(2), plain.now + random.nextInt(40), random.nextInt(256));
            }
        }
        if (random.nextInt(5) == 0) {
            // Turned twice it comes whole.
            int e = random.nextInt(2), n = plain.now + random.nextInt(3), k = random.nextInt(60);
            ask(12, e, n, k);
            ask(12, e, n, k);
        }
    }

    /** Lets a unit with a long message go, and turns its bits into those of another unit. */
    private void forge() {
        int e = random.nextInt(2);
        int l = 8 * e + random.nextInt(8);
        if (plain.line(l, 0) == 1) {
            ask(9, l, 0);
            ticks(40);
        }
        ask(9, l, 1);
        ticks(1);
        if (plain.line(l, 2) != 0) return;
        int[] long12 = {10, 10, 0, 3, 2, 1, 0, 3, 2, 1, 3, 2};
        for (int k : long12) ask(10, l, k);
        ticks(11);
        int circuit = e == 0 ? 0 : plain.circuits - 1;
        while (circuit >= 0 && circuit < plain.circuits && plain.circuit(e, circuit) != 0) {
            circuit += e == 0 ? 1 : -1;
        }
        PlainTown.End other = plain.ends[1 - e], own = plain.ends[e];
        int[] iam = new int[16];
        System.arraycopy(new int[] {circuit, 1, 0, 12}, 0, iam, 0, 4);
        System.arraycopy(long12, 0, iam, 4, 12);
        int[] bits = PlainTown.bitsOf(own.got % 128, own.bib, (own.next + 1) % 128, own.fib, iam);
        int[] message = forgedMessage();
        int fsn = random.nextInt(8) == 0 ? random.nextInt(128)
                : (other.got + (message.length > 0 ? 1 : 0)) % 128;
        int[] due = PlainTown.bitsOf(random.nextInt(8) == 0 ? random.nextInt(128) : own.got % 128,
                random.nextInt(8) == 0 ? 0 : own.bib, fsn,
                random.nextInt(8) == 0 ? 0 : other.bib, message);
        for (int k = 0; k < due.length && k < bits.length; k++) {
            if (due[k] != bits[k]) ask(12, e, plain.now, k);
        }
        for (int i = 0; i < 4; i++) ticks(1);
    }

    private int[] forgedMessage() {
        int c = random.nextInt(plain.circuits + 1);
        switch (random.nextInt(10)) {
            case 0: return new int[] {};
            case 1: return new int[] {c};
            case 2: return new int[] {c, 2};
            case 3: return new int[] {c, 3};
            case 4: return new int[] {c, 4, random.nextInt(256)};
            case 5: return new int[] {c, 5};
            case 6: return new int[] {c, random.nextInt(8), random.nextInt(8)};
            case 7: return new int[] {c, 1, random.nextInt(7), 2, 2, random.nextInt(8)};
            case 8: return new int[] {c, 1, random.nextInt(4), random.nextInt(4), 7,
                random.nextInt(14)};
            default: return new int[] {c, 1, 0, 2, random.nextInt(13), random.nextInt(8)};
        }
    }

    private int odd() {
        return some(-1000000000, -3, -2, -1, 0, 1, 2, 3, 4, 7, 8, 9, 11, 12, 15, 16, 20, 64, 255,
                256, 1000, 1001, 8001, 10001, 1000001, Integer.MAX_VALUE, Integer.MIN_VALUE);
    }

    private void badCalls() {
        for (int i = 0; i < 60; i++) {
            int op = random.nextInt(26);
            if (op == 14) continue;
            // A whole exchange or line among odd numbers reaches the later tests of a call.
            ask(op, random.nextInt(3) == 0 ? random.nextInt(16) : odd(), odd(), odd(), odd(), odd());
        }
        ask(14, some(0, -1, 1001, Integer.MAX_VALUE, Integer.MIN_VALUE));
        ask(1);
        compareAll();
    }
}
