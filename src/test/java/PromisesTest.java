/**
 * For each promise of the document ordinary inputs, the edges that it names, and wrong inputs.
 * What is due was worked out from the document's words, not from the program.
 */
public final class PromisesTest extends Bench {
    public static void main(String[] args) throws ReflectiveOperationException {
        runAll(PromisesTest.class);
    }

    // ---- 1

    static void promise1_newObject() {
        town(0, 0);
        due("circuit(0, 0) of C 0", x.circuit(0, 0), 0);
        due("circuit(0, 1) of C 0", x.circuit(0, 1), BAD);
        due("told(4) of C 0", x.told(4), 1);
        town(MIN, MIN);
        due("told(4) of least C", x.told(4), 1);
        town(99, 0);
        due("circuit(1, 15) of C 99", x.circuit(1, 15), 0);
        due("circuit(1, 16) of C 99", x.circuit(1, 16), BAD);
        town(MAX, MAX);
        due("told(4) of most C", x.told(4), 16);
        town(5, 2);
        due("circuit(1, 4)", x.circuit(1, 4), 0);
        due("circuit(1, 5)", x.circuit(1, 5), BAD);
        for (int l = 0; l < 16; l++) {
            due("hook", x.hook(l, false), 0);
            due("credit", x.credit(l, -1), NONE);
            due("say", x.say(l, 0), 0);
            due("heard", x.heard(l), 0);
            due("partner", x.partner(l), NONE);
            int[] want = {0, 0, NONE, 0, 0, 0, NONE, 0, 0};
            for (int what = 0; what < 9; what++) due("line", x.line(l, what), want[what]);
            for (int what = 0; what < 3; what++) due("feature", x.feature(l, what, false), 0);
        }
        for (int e = 0; e < 2; e++) {
            int[] want = {0, 0, 0, 0, 1, 1, 0};
            for (int what = 0; what < 7; what++) due("link", x.link(e, what), want[what]);
            for (int g = 0; g < 3; g++) {
                due("group members", x.group(e, g, 1), 0);
                due("waiting", x.waiting(e, g, 0), 0);
            }
            due("speech ahead of the first tick", x.speech(e, 0), 213);
        }
        due("keyless", x.keyless(), 0);
        reservedCircuits();
    }

    private static void reservedCircuits() {
        // RESERVED -5 is 0, 9 is C, 1 leaves one circuit to calls with rank alone.
        int[][] cases = {{2, -5, 1, 0}, {2, 9, NONE, 3}, {2, 1, 1, 0}, {1, 1, NONE, 3}};
        for (int[] c : cases) {
            town(c[0], c[1]);
            row(0, 1, 1, 0, 0, 1);
            row(0, 1, 2, 0, 0, 2);
            call(0, 1);
            due("state of the first call", x.line(0, 2), c[2]);
            due("cause of the first call", x.line(0, 4), c[3]);
            call(1, 2);
            due("state of a call with rank", x.line(1, 2), 1);
        }
        town(2, 1);
        row(0, 1, 1, 0, 0, 1);
        row(0, 1, 2, 0, 0, 2);
        row(1, 1, 0, 8, 0, 1);
        row(1, 1, 0, 9, 0, 2);
        call(0, 1);
        call(1, 1);
        due("one idle, one reserved", x.line(1, 4), 3);
        call(2, 2);
        due("with rank", x.line(2, 2), 1);
        call(3, 2);
        due("with rank, none idle", x.line(3, 4), 3);
    }

    // ---- 2, 3

    static void promise2_key() {
        town(1, 0);
        due("key(-1)", x.key(-1), BAD);
        due("key(12)", x.key(12), BAD);
        due("key(MIN)", x.key(MIN), BAD);
        for (int k = 0; k < 12; k++) due("key(" + k + ")", x.key(k), k + 1);
        due("the 13th", x.key(0), FULL);
        due("bad ahead of full", x.key(12), BAD);
        due("keyless", x.keyless(), 12);
        due("key(11) anew", x.key(11), 1);
    }

    static void promise3_keyless() {
        town(1, 0);
        due("without keys", x.keyless(), 0);
        keys(4, 5, 6);
        due("with three", x.keyless(), 3);
        due("then", x.keyless(), 0);
        due("plan without keys", x.plan(0, 1, 0, 0, 0), BAD);
    }

    // ---- 4

    static void promise4_plan() {
        town(4, 0);
        int[][] bad = {
            {-1, 2, 0, 0, 0}, {2, 2, 0, 0, 0}, {0, 1, 0, 0, 0}, {0, 13, 0, 0, 0}, {0, MIN, 0, 0, 0},
            {0, 2, -1, 0, 0}, {0, 2, 5, 0, 0}, {0, 2, 0, -1, 0}, {0, 2, 0, 8, 0}, {1, 2, 0, 7, 0},
            {1, 2, 0, 16, 0}, {0, 2, 1, -1, 0}, {0, 2, 1, 3, 0}, {0, 2, 2, 3, 0}, {0, 2, 3, 3, 0},
            {0, 2, 3, -1, 0}, {0, 2, 4, 2, 0}, {0, 2, 4, -1, 0}, {0, 2, 0, 0, -1}, {0, 2, 0, 0, 4}};
        keys(1, 2);
        for (int[] b : bad) due("wrong input", x.plan(b[0], b[1], b[2], b[3], b[4]), BAD);
        due("the keys stayed", x.plan(0, 2, 0, 7, 3), 0);
        due("then they are gone", x.keyless(), 0);
        due("the same prefix", row(0, 5, 1, 0, 0, 1, 2), BAD);
        due("its keys stayed", x.plan(1, 5, 1, 5, 0), 0);
        due("a longer prefix", row(0, 3, 2, 3, 0, 1, 2, 0), 1);
        due("a shorter prefix", row(0, 12, 2, 12, 0, 1), 2);
        due("twelve keys", row(0, 12, 4, 1, 0, 0, 1, 2, 3, 4, 5, 6, 7, 8, 9, 10, 11), 3);
        due("keys 0 differ from none", row(0, 3, 3, 2, 0, 0, 0, 0), 4);
        due("fewer of them", row(0, 3, 3, 2, 0, 0, 0), 5);
        for (int i = 6; i < 24; i++) due("row " + i, row(0, 3, 0, 0, 0, 3, i % 12, i / 12), i);
        due("the 25th row", row(0, 1, 0, 0, 0, 9), FULL);
        due("bad ahead of full", x.plan(0, 1, 0, 9, 0), BAD);
        due("the keys stayed", x.plan(1, 1, 0, 9, 0), 1);
        keys(1, 2);
        due("the same prefix ahead of full", x.plan(0, 2, 0, 0, 0), BAD);
    }

    static void promise4_analysis() {
        town(4, 0);
        row(0, 2, 0, 1, 0, 2);
        row(0, 3, 0, 2, 0, 2, 5);
        row(0, 5, 0, 3, 0, 4, 4, 4);
        row(0, 1, 0, 4, 0, 6);
        row(0, 3, 0, 5, 0, 6, 6, 6);
        call(0, 2, 1);
        due("2 1 is line 1", x.line(1, 1), 5);
        hang(0);
        call(0, 2, 5);
        due("2 5 is not whole", x.line(0, 2), 0);
        dialAll(0, 9);
        due("2 5 9 is line 2", x.line(2, 1), 5);
        hang(0);
        call(0, 4);
        due("4 begins a prefix", x.line(0, 2), 0);
        dialAll(0, 5);
        due("4 5 is wrong", x.line(0, 4), 1);
        due("its tone", x.line(0, 1), 4);
        hang(0);
        call(0, 6);
        due("6 begins a longer prefix", x.line(0, 2), 0);
        dialAll(0, 1);
        due("6 1 is too long", x.line(0, 4), 1);
        hang(0);
        call(0, 6, 6, 6);
        due("6 6 6 is line 5", x.line(5, 1), 5);
        hang(0);
        call(0, 3);
        due("3 is wrong", x.line(0, 2), NONE);
        lift(8);
        due("without rows", x.line(8, 2), 0);
        dialAll(8, 1);
        due("without rows all is wrong", x.line(8, 4), 1);
    }

    // ---- 5, 6

    static void promise5_member() {
        town(1, 0);
        int[][] bad = {{-1, 0}, {3, 0}, {0, -1}, {0, 16}, {MAX, MIN}};
        for (int[] b : bad) due("wrong input", x.member(b[0], b[1]), BAD);
        for (int l = 0; l < 16; l++) due("line " + l, x.member(1, l), l % 8 + 1);
        for (int l = 0; l < 16; l++) due("line " + l + " again", x.member(1, l), BAD);
        due("another group", x.member(0, 3), 1);
        due("members of 0", x.group(0, 0, 1), 1);
        due("members of 1", x.group(0, 1, 1), 8);
        due("members there", x.group(1, 1, 1), 8);
        due("none there", x.group(1, 0, 1), 0);
    }

    static void promise6_waiting() {
        town(1, 0);
        int[][] bad = {{-1, 0, 1}, {2, 0, 1}, {0, -1, 1}, {0, 3, 1}, {0, 0, -1}, {0, 0, 11}};
        for (int[] b : bad) due("wrong input", x.waiting(b[0], b[1], b[2]), BAD);
        due("at first", x.waiting(1, 2, 10), 0);
        due("then", x.waiting(1, 2, 3), 10);
        due("of another", x.waiting(0, 2, 0), 0);
        town(1, 0);
        usualPlan();
        call(0, 7);
        due("none may wait", x.line(0, 4), 2);
        x.waiting(0, 0, 2);
        call(1, 7);
        call(2, 7);
        call(3, 7);
        due("two wait", x.group(0, 0, 0), 2);
        due("the third fails", x.line(3, 4), 2);
        due("it sounds", x.line(1, 1), 6);
        due("two might", x.waiting(0, 0, 0), 2);
        x.tick(5);
        due("those that wait stay", x.group(0, 0, 0), 2);
        x.member(0, 4);
        x.tick(1);
        due("the first one rings it", x.line(1, 2), 2);
        due("the second waits", x.line(2, 2), 4);
        hang(1);
        due("now the second rings it", x.line(2, 2), 2);
        due("none waits", x.group(0, 0, 0), 0);
    }

    static void promise6_groupOrder() {
        town(1, 0);
        usualPlan();
        x.waiting(0, 0, 1);
        x.member(0, 5);
        x.member(0, 4);
        x.member(0, 3);
        lift(4);
        hang(4);
        call(0, 7);
        due("of like ones the first member", x.line(5, 1), 5);
        call(1, 7);
        due("the next with the least since", x.line(3, 1), 5);
        call(2, 7);
        due("the last", x.line(4, 1), 5);
        call(6, 7);
        due("then one waits", x.line(6, 2), 4);
        // Line 5 was rung in tick 42, lines 3 and 4 two and four ticks later; line 1 is to hang
        // up in tick 343.
        x.tick(304 - x.told(0));
        x.hook(1, false);
        x.tick(38);
        due("not yet away", x.line(5, 5), 0);
        x.tick(1);
        due("away", x.line(5, 5), 1);
        due("rung no more", x.line(5, 1), 0);
        due("both wait, though one may", x.group(0, 0, 0), 2);
        due("it waits again", x.line(0, 2), 4);
        x.tick(1);
        due("the one that rang waits ahead", x.line(0, 2), 2);
        due("line 3 is rung", x.line(3, 1), 5);
        due("line 5 is not", x.line(5, 1), 0);
        lift(5);
        due("lifted: away no more", x.line(5, 5), 0);
        hang(5);
        due("line 4 is away", x.line(4, 5), 1);
        due("its call is the next", x.line(2, 2), 2);
        due("the last still waits", x.line(6, 2), 4);
    }

    static void promise6_queueOrder() {
        town(1, 0);
        usualPlan();
        x.waiting(0, 0, 5);
        x.member(0, 6);
        x.member(0, 7);
        call(0, 7);
        due("the first member", x.line(6, 1), 5);
        hang(0);
        call(0, 7);
        due("the first was free later: the second", x.line(7, 1), 5);
        hang(0);
        // Calls 0 .. 3 are made in this order, and come to the group in another one.
        lift(6);
        for (int l = 0; l < 4; l++) lift(l);
        dialAll(3, 7);
        due("3 rings line 7", x.line(3, 2), 2);
        int ringing = x.told(0) - 1;
        dialAll(2, 7);
        dialAll(0, 7);
        dialAll(1, 7);
        due("three wait", x.group(0, 0, 0), 3);
        x.tick(ringing + 300 - x.told(0));
        x.tick(1);
        due("four wait", x.group(0, 0, 0), 4);
        int[] order = {3, 2, 0, 1};
        lift(7);
        hang(7);
        for (int i = 0; i < 4; i++) {
            for (int j = 0; j < 4; j++) {
                due("place " + j, x.line(order[j], 2), j < i ? NONE : j == i ? 2 : 4);
            }
            hang(order[i]);
        }
        // Both ring in vain: the later one waits ahead of the earlier one.
        hang(6);
        call(0, 7);
        call(1, 7);
        x.tick(302);
        due("both wait", x.group(0, 0, 0), 2);
        lift(6);
        hang(6);
        due("the later one rings", x.line(1, 2), 2);
        due("the earlier one waits", x.line(0, 2), 4);
    }

    // ---- 7

    static void promise7_feature() {
        town(2, 0);
        int[][] bad = {{-1, 0}, {16, 0}, {0, -1}, {0, 3}};
        for (int[] b : bad) due("wrong input", x.feature(b[0], b[1], true), BAD);
        for (int what = 0; what < 3; what++) {
            due("at first", x.feature(9, what, true), 0);
            due("on", x.feature(9, what, true), 1);
            due("on to off", x.feature(9, what, false), 1);
            due("off", x.feature(9, what, false), 0);
        }
        usualPlan();
        row(0, 3, 2, 1, 0, 4);
        x.feature(1, 0, true);
        call(0, 2, 1);
        due("not disturb", x.line(0, 4), 8);
        due("its tone", x.line(0, 1), 3);
        hang(0);
        x.feature(1, 0, false);
        x.feature(0, 1, true);
        call(0, 3, 2, 4);
        due("barred", x.line(0, 4), 8);
        hang(0);
        call(0, 2, 1);
        due("barred, but near", x.line(0, 2), 2);
        hang(0);
        call(0, 4, 2, 4);
        due("barred, but with rank", x.line(0, 2), 1);
    }

    // ---- 8

    static void promise8_forward() {
        town(2, 0);
        usualPlan();
        keys(2, 2);
        int[][] bad = {{-1, 0}, {16, 0}, {0, -1}, {0, 3}};
        for (int[] b : bad) due("wrong input", x.forward(b[0], b[1]), BAD);
        due("always", x.forward(1, 0), 1);
        due("the keys are gone", x.keyless(), 0);
        call(0, 2, 1);
        due("line 2 is rung", x.line(2, 1), 5);
        due("line 1 is not", x.line(1, 1), 0);
        hang(0);
        due("no more", x.forward(1, 0), 1);
        call(0, 2, 1);
        due("line 1 is rung", x.line(1, 1), 5);
        hang(0);
        keys(3, 2, 4);
        x.forward(1, 1);
        lift(1);
        call(0, 2, 1);
        due("busy: sent", x.line(0, 2), 1);
        due("its keys", x.line(0, 7), 3);
        x.tick(6);
        due("line 12 is rung", x.line(12, 1), 5);
        hang(0);
        hang(1);
        keys(2, 2);
        x.forward(1, 2);
        call(0, 2, 1);
        x.tick(299);
        due("not yet", x.line(1, 1), 5);
        x.tick(1);
        due("without answer", x.line(2, 1), 5);
        due("rung no more", x.line(1, 1), 0);
        x.tick(599);
        due("not yet over", x.line(0, 2), 2);
        x.tick(1);
        due("over", x.line(0, 4), 4);
        due("line 2 is rung no more", x.line(2, 1), 0);
    }

    static void promise8_forwardChains() {
        town(2, 0);
        usualPlan();
        for (int i = 1; i < 6; i++) {
            keys(2, i + 1);
            x.forward(i, 0);
        }
        call(0, 2, 1);
        due("five times", x.line(6, 1), 5);
        hang(0);
        keys(2, 7);
        x.forward(6, 0);
        call(0, 2, 1);
        due("six times", x.line(0, 4), 2);
        hang(0);
        keys(2, 1);
        x.forward(1, 0);
        call(0, 2, 1);
        due("to itself", x.line(0, 4), 2);
        hang(0);
        keys(2);
        x.forward(1, 0);
        call(0, 2, 1);
        due("more keys are wanted", x.line(0, 4), 1);
        hang(0);
        // The forwards of an IAM count on: three here, three there.
        keys(3, 2, 0);
        x.forward(3, 0);
        keys(2, 2);
        x.forward(1, 0);
        keys(2, 1);
        x.forward(8, 0);
        keys(2, 2);
        x.forward(9, 0);
        keys(2, 3);
        x.forward(10, 0);
        call(0, 2, 1);
        x.tick(8);
        due("six of both exchanges", x.line(0, 4), 2);
        hang(0);
        call(0, 2, 2);
        x.tick(8);
        due("five of both exchanges", x.line(11, 1), 5);
    }

    // ---- 9, 10

    static void promise9_tariff() {
        town(1, 0);
        int[][] bad = {
            {-1, 0, 1, 0, 0}, {4, 0, 1, 0, 0}, {0, -1, 1, 0, 0}, {0, 10001, 1, 0, 0},
            {0, 0, 0, 0, 0}, {0, 0, 1001, 0, 0}, {0, 0, 1, -1, 0}, {0, 0, 1, 201, 0},
            {0, 0, 1, 0, -1}, {0, 0, 1, 0, 201}};
        for (int[] b : bad) due("wrong input", x.tariff(b[0], b[1], b[2], b[3], b[4]), BAD);
        due("the most", x.tariff(3, 10000, 1000, 200, 200), 1);
        due("the least", x.tariff(0, 0, 1, 0, 0), 1);
        row(0, 1, 4, 0, 2, 8);
        row(0, 1, 4, 1, 1, 9);
        x.tariff(2, 50, 10, 7, 3);
        x.credit(0, 1000);
        x.credit(1, 0);
        call(1, 9);
        x.tick(1);
        due("a zone at first is free", x.line(1, 6), 0);
        call(0, 8);
        due("setup and night", x.line(0, 6), 947);
        x.tick(9);
        due("T 9", x.line(0, 6), 947);
        x.tick(1);
        due("T 10", x.line(0, 6), 944);
        x.tick(10);
        due("T 20", x.line(0, 6), 941);
        x.tariff(2, 50, 25, 7, 3);
        x.tick(4);
        due("T 24", x.line(0, 6), 941);
        x.tick(1);
        due("T 25 of the new step", x.line(0, 6), 938);
        // Answered in tick 4: at T 800 it is tick 804, by day; before it 775 charges the night.
        x.tick(775);
        due("T 800", x.line(0, 6), 938 - 30 * 3 - 7);
        x.tick(1000);
        x.tick(591);
        due("tick 2395", x.line(0, 6), 841 - 63 * 7);
        x.tick(25);
        due("tick 2420 by night", x.line(0, 6), 400 - 3);
    }

    static void promise10_credit() {
        town(1, 0);
        int[][] bad = {{-1, 0}, {16, 0}, {0, -2}, {0, 1000001}, {0, MIN}};
        for (int[] b : bad) due("wrong input", x.credit(b[0], b[1]), BAD);
        due("at first", x.credit(5, 1000000), NONE);
        due("then", x.credit(5, 0), 1000000);
        due("then", x.credit(5, NONE), 0);
        due("told", x.line(5, 6), NONE);
        row(0, 1, 0, 1, 0, 1);
        x.tariff(0, 10, 20, 4, 2);
        x.credit(0, 11);
        call(0, 1);
        lift(1);
        due("below the first charge", x.line(0, 4), 5);
        due("both are told", x.line(1, 4), 5);
        due("tone", x.line(1, 1), 3);
        due("credit stays", x.line(0, 6), 11);
        due("a record of no cents", x.record(0, 4), 0);
        hang(0);
        hang(1);
        x.credit(0, 15);
        call(0, 1);
        lift(1);
        due("just enough", x.line(0, 6), 3);
        x.tick(19);
        due("T 19", x.line(0, 6), 3);
        x.tick(1);
        due("T 20", x.line(0, 6), 1);
        x.tick(20);
        due("T 40: below the charge", x.line(0, 4), 5);
        due("a record of what was paid", x.record(1, 4), 14);
        due("it lasted", x.record(1, 3) - x.record(1, 2), 40);
    }

    // ---- 11, 12

    static void promise11_hook() {
        town(1, 0);
        usualPlan();
        due("hook(-1)", x.hook(-1, true), BAD);
        due("hook(16)", x.hook(16, true), BAD);
        due("open to closed", x.hook(3, true), 0);
        due("closed", x.hook(3, true), 1);
        due("not lifted ahead of the tick", x.line(3, 0), 0);
        x.tick(1);
        due("lifted", x.line(3, 0), 1);
        due("it sounds", x.line(3, 1), 1);
        due("closed to open", x.hook(3, false), 1);
        due("open", x.hook(3, false), 0);
        x.tick(39);
        due("open for 39 ticks", x.line(3, 0), 1);
        x.tick(1);
        due("open for 40 ticks", x.line(3, 0), 0);
        due("its call is over", x.told(2), 0);
        due("cause stays", x.line(3, 4), 0);
        x.hook(3, true);
        x.hook(3, false);
        x.tick(1);
        due("only the tick looks", x.line(3, 0), 0);
    }

    static void promise11_pulses() {
        town(1, 0);
        usualPlan();
        lift(0);
        pulse(0, 9, 1);
        pulse(0, 1, 19);
        due("quiet for 19", x.line(0, 7), 0);
        x.tick(1);
        due("quiet for 20: key 2", x.line(0, 7), 1);
        pulse(0, 3, 10);
        x.hook(0, false);
        x.tick(5);
        x.hook(0, true);
        x.tick(20);
        due("two pulses: key 2, line 2", x.line(2, 1), 5);
        hang(0);
        row(0, 2, 0, 0, 0, 0);
        lift(1);
        for (int i = 0; i < 10; i++) pulse(1, 2, 2);
        x.tick(18);
        due("ten pulses: key 0", x.line(1, 7), 1);
        for (int i = 0; i < 11; i++) pulse(1, 2, 2);
        x.tick(18);
        due("eleven are no key", x.line(1, 7), 1);
        pulse(1, 2, 2);
        pulse(1, 10, 30);
        due("a flash takes pulses away", x.line(1, 7), 1);
        pulse(1, 2, 1);
        x.dial(1, 5);
        x.tick(18);
        due("keys wait for pulses", x.line(1, 8), 1);
        x.tick(1);
        due("key 1 came", x.line(1, 2), 2);
        x.tick(1);
        due("then the other", x.line(1, 8), 0);
    }

    static void promise12_dial() {
        town(1, 0);
        usualPlan();
        due("not lifted", x.dial(0, 1), BAD);
        x.hook(0, true);
        due("not lifted yet", x.dial(0, 1), BAD);
        x.tick(1);
        int[][] bad = {{-1, 0}, {16, 0}, {0, -1}, {0, 12}};
        for (int[] b : bad) due("wrong input", x.dial(b[0], b[1]), BAD);
        for (int i = 1; i <= 20; i++) due("key " + i, x.dial(0, i == 1 ? 2 : 11), i);
        due("the 21st", x.dial(0, 0), FULL);
        due("bad ahead of full", x.dial(0, 12), BAD);
        due("they wait", x.line(0, 8), 20);
        x.tick(1);
        due("one came", x.line(0, 8), 19);
        due("it is in the call", x.line(0, 7), 1);
        x.tick(1);
        due("2 11 is wrong", x.line(0, 4), 1);
        x.tick(3);
        due("without a call they come too", x.line(0, 8), 15);
        x.hook(0, false);
        x.tick(39);
        due("open: they stay", x.line(0, 8), 15);
        x.tick(1);
        due("hung up: gone", x.line(0, 8), 0);
    }

    // ---- 13

    static void promise13_say() {
        town(1, 0);
        int[][] bad = {{-1, 0}, {16, 0}, {0, 8001}, {0, -8001}, {0, MIN}};
        for (int[] b : bad) due("wrong input", x.say(b[0], b[1]), BAD);
        due("at first", x.say(7, 8000), 0);
        due("then", x.say(7, -8000), 8000);
        due("then", x.say(7, 1), -8000);
        due("of another", x.say(8, 1), 0);
    }

    // ---- 14, 15

    static void promise14_spoil() {
        town(1, 0);
        x.tick(10);
        int[][] bad = {{-1, 10, 0}, {2, 10, 0}, {0, 9, 0}, {0, 100011, 0}, {0, 10, -1},
            {0, 10, 256}, {0, MAX, 0}, {0, MIN, 0}};
        for (int[] b : bad) due("wrong input", x.spoil(b[0], b[1], b[2]), BAD);
        due("the latest", x.spoil(1, 100010, 255), 1);
        due("the earliest", x.spoil(0, 10, 12), 2);
        due("lost ones count for themselves", x.lose(0, 11), 1);
        due("another", x.spoil(1, 11, 55), 3);
        due("it has no such bit", x.spoil(1, 12, 56), 4);
        due("turned twice", x.spoil(1, 10, 30), 5);
        due("turned twice", x.spoil(1, 10, 30), 6);
        x.tick(1);
        due("three were sent", x.spoil(0, 100, 0), 4);
        x.tick(1);
        due("not come yet", x.link(1, 6), 0);
        x.tick(1);
        due("unit 10 came", x.link(1, 6), 1);
        due("as it was sent", x.bit(0, 10, 12), 0);
        due("turned twice is whole", x.link(0, 6), 0);
        x.tick(1);
        due("unit 11 came", x.link(0, 6), 1);
        x.tick(5);
        due("no such bit: whole", x.link(0, 6), 1);
        for (int i = 3; i <= 300; i++) due("many", x.spoil(i % 2, 200 + i, i % 256), i);
        due("the 301st", x.spoil(0, 500, 1), FULL);
        due("bad ahead of full", x.spoil(0, 5, 1), BAD);
        due("lost ones are not full", x.lose(0, 500), 1);
        x.tick(500);
        due("all but one were sent", x.spoil(0, 900, 1), 2);
    }

    static void promise15_lose() {
        town(1, 0);
        usualPlan();
        x.tick(5);
        int[][] bad = {{-1, 5}, {2, 5}, {0, 4}, {0, 100006}, {0, MAX}, {0, MIN}};
        for (int[] b : bad) due("wrong input", x.lose(b[0], b[1]), BAD);
        due("the latest", x.lose(0, 100005), 1);
        due("the earliest", x.lose(1, 5), 2);
        due("told twice counts twice", x.lose(1, 5), 3);
        x.tick(1);
        due("both were sent", x.lose(1, 50), 2);
        x.tick(5);
        due("lost is not spoiled", x.link(0, 6), 0);
        for (int i = 3; i <= 300; i++) due("many", x.lose(i % 2, 60), i);
        due("the 301st", x.lose(0, 61), FULL);
        due("bad ahead of full", x.lose(2, 61), BAD);
        town(1, 0);
        usualPlan();
        // The IAM goes in tick 3.
        x.lose(0, 3);
        call(0, 3, 2, 4);
        x.tick(2);
        due("unit 3 did not come", x.line(12, 1), 0);
        due("got", x.link(1, 3), 0);
        // Unit 4 without it turns BIB in tick 6; unit 6 tells that in tick 8; it comes in tick 10.
        x.tick(1);
        due("turned", x.link(1, 5), 0);
        x.tick(2);
        due("it goes again", x.link(0, 4), 0);
        due("next", x.link(0, 2), 1);
        x.tick(1);
        due("not yet", x.line(12, 1), 0);
        x.tick(1);
        due("it came", x.line(12, 1), 5);
    }

    // ---- 16

    static void promise16_tick() {
        town(1, 0);
        due("tick(0)", x.tick(0), BAD);
        due("tick(-1)", x.tick(-1), BAD);
        due("tick(1001)", x.tick(1001), BAD);
        due("tick(MAX)", x.tick(MAX), BAD);
        due("now", x.told(0), 0);
        due("tick(1)", x.tick(1), 1);
        due("tick(1000)", x.tick(1000), 1001);
    }

    static void promise16_times() {
        town(2, 0);
        usualPlan();
        row(1, 1, 1, 0, 0, 5);
        lift(0);
        x.tick(499);
        due("dialling for 499", x.line(0, 2), 0);
        x.tick(1);
        due("dialling for 500", x.line(0, 4), 1);
        hang(0);
        lift(0);
        x.tick(400);
        dialAll(0, 2);
        x.tick(499);
        due("499 behind a key", x.line(0, 2), 0);
        x.tick(1);
        due("500 behind a key", x.line(0, 4), 1);
        hang(0);
        call(0, 2, 1);
        x.tick(599);
        due("ringing for 599", x.line(1, 1), 5);
        x.tick(1);
        due("ringing for 600", x.line(0, 4), 4);
        due("rung no more", x.line(1, 1), 0);
        hang(0);
        // The IAM goes in the fourth tick, and again in each fifth one behind it; it never comes.
        for (int i = 0; i <= 500; i += 5) x.lose(0, x.told(0) + 3 + i);
        call(0, 3, 2, 4);
        x.tick(499);
        due("sent for 499", x.line(0, 2), 1);
        x.tick(1);
        due("sent for 500", x.line(0, 4), 6);
        due("clearing", x.circuit(0, 0), 3);
        hang(0);
        x.waiting(1, 0, 1);
        call(8, 7);
        for (int i = 0; i < 2; i++) x.tick(1000);
        x.tick(999);
        due("waiting for 2999", x.line(8, 2), 4);
        x.tick(1);
        due("waiting for 3000", x.line(8, 4), 4);
        due("none waits", x.group(1, 0, 0), 0);
    }

    // ---- 17

    static void promise17_line() {
        town(2, 0);
        usualPlan();
        int[][] bad = {{-1, 0}, {16, 0}, {0, -1}, {0, 9}};
        for (int[] b : bad) due("wrong input", x.line(b[0], b[1]), BAD);
        lift(0);
        due("dialling without keys", x.line(0, 1), 1);
        due("state", x.line(0, 2), 0);
        dialAll(0, 3);
        due("dialling with keys", x.line(0, 1), 0);
        dialAll(0, 2, 4);
        due("sent", x.line(0, 1), 0);
        due("state", x.line(0, 2), 1);
        due("keys", x.line(0, 7), 3);
        x.tick(4);
        due("ringing", x.line(0, 1), 2);
        due("the other one is rung", x.line(12, 1), 5);
        due("it has no active", x.line(12, 2), NONE);
        due("and no keys", x.line(12, 7), 0);
        lift(12);
        due("talk", x.line(12, 1), 7);
        due("state", x.line(12, 2), 3);
        due("keys of the IAM", x.line(12, 7), 2);
        due("not answered here yet", x.line(0, 2), 2);
        x.tick(2);
        due("answered", x.line(0, 2), 3);
        hang(12);
        due("on hook", x.line(12, 1), 0);
        x.tick(1);
        due("REL is on its way", x.line(0, 2), 3);
        x.tick(1);
        due("REL came", x.line(0, 2), NONE);
        due("cause", x.line(0, 4), 7);
        due("tone", x.line(0, 1), 3);
        due("cause of the one that hung up", x.line(12, 4), 0);
        hang(0);
        due("no tone on hook", x.line(0, 1), 0);
        due("cause stays", x.line(0, 4), 7);
    }

    static void promise17_secondCall() {
        town(1, 0);
        usualPlan();
        call(0, 2, 1);
        x.feature(1, 2, true);
        call(2, 2, 1);
        due("rung, not in talk: busy", x.line(2, 4), 2);
        hang(2);
        lift(1);
        call(2, 2, 1);
        due("other rings", x.line(1, 3), 1);
        due("it sounds", x.line(1, 1), 8);
        due("ringing", x.line(2, 1), 2);
        call(3, 2, 1);
        due("a third: busy", x.line(3, 4), 2);
        hang(3);
        flash(1);
        due("changed and answered", x.partner(1), 2);
        due("the first is other", x.line(1, 3), 2);
        due("it talks still", x.line(0, 2), 3);
        flash(1);
        due("changed again", x.partner(1), 0);
        hang(0);
        due("active is none", x.line(1, 2), NONE);
        due("tone", x.line(1, 1), 3);
        due("other stays", x.line(1, 3), 2);
        flash(1);
        due("changed with none", x.partner(1), 2);
        due("no other", x.line(1, 3), 0);
        flash(1);
        due("without other nothing", x.partner(1), 2);
        call(0, 2, 1);
        due("other rings", x.line(1, 3), 1);
        hang(1);
        due("over for active", x.line(2, 4), 7);
        due("over for other", x.line(0, 4), 7);
        due("no calls", x.told(2), 0);
        keys(2, 4);
        x.forward(1, 2);
        hang(0);
        hang(2);
        call(0, 2, 1);
        lift(1);
        call(2, 2, 1);
        x.tick(299);
        due("other still rings", x.line(1, 3), 1);
        x.tick(1);
        due("is not other", x.line(1, 3), 0);
        due("it is forwarded", x.line(4, 1), 5);
    }

    // ---- 18, 19

    static void promise18_partner() {
        town(3, 0);
        usualPlan();
        due("partner(-1)", x.partner(-1), BAD);
        due("partner(16)", x.partner(16), BAD);
        due("on hook", x.partner(0), NONE);
        call(0, 2, 1);
        due("ringing", x.partner(0), NONE);
        lift(1);
        due("line 1", x.partner(0), 1);
        due("line 0", x.partner(1), 0);
        call(2, 8);
        due("a room", x.partner(2), 200);
        call(9, 3, 2, 4);
        x.tick(4);
        lift(4);
        x.tick(2);
        due("the highest circuit from exchange 1", x.partner(9), 102);
        due("there too", x.partner(4), 102);
        row(1, 1, 4, 1, 0, 9);
        call(10, 9);
        due("the other room", x.partner(10), 201);
    }

    static void promise19_heard() {
        town(1, 0);
        usualPlan();
        due("heard(-1)", x.heard(-1), BAD);
        due("heard(16)", x.heard(16), BAD);
        call(0, 2, 1);
        x.say(0, 500);
        x.tick(1);
        due("ringing", x.heard(1), 0);
        lift(1);
        int[][] law0 = {{8000, 8064}, {-8000, -8064}, {0, 2}, {1, 2}, {-1, -2}, {3, 2}, {4, 6},
            {63, 62}, {64, 66}, {-64, -66}, {127, 126}, {128, 132}, {1000, 1008}};
        for (int[] v : law0) {
            x.say(0, v[0]);
            x.tick(1);
            due("law 0 of " + v[0], x.heard(1), v[1]);
        }
        hang(0);
        due("over", x.heard(1), 0);
        call(8, 2, 1);
        lift(9);
        int[][] law1 = {{8000, 8031}, {-8000, -8031}, {0, 0}, {1, 2}, {-1, -2}, {2, 2}, {30, 30},
            {31, 33}, {-77, -77}, {990, 975}, {1000, 1023}};
        for (int[] v : law1) {
            x.say(8, v[0]);
            x.tick(1);
            due("law 1 of " + v[0], x.heard(9), v[1]);
        }
        // One whose call is not active gives 0, and hears only its active call.
        x.feature(9, 2, true);
        call(10, 2, 1);
        x.say(9, 500);
        x.say(10, 30);
        flash(9);
        due("on hold", x.heard(8), 0);
        due("active", x.heard(9), 30);
        due("the active one", x.heard(10), 495);
    }

    static void promise19_roomSpeech() {
        town(1, 0);
        usualPlan();
        call(0, 8);
        due("alone by law 0", x.heard(0), 2);
        call(8, 8);
        due("alone by law 1", x.heard(8), 0);
        call(1, 8);
        call(2, 8);
        x.say(0, 8000);
        x.say(1, 8000);
        x.say(2, -8000);
        x.tick(1);
        due("8064 and -8064", x.heard(0), 2);
        due("not above 8000", x.heard(2), 8064);
        x.say(0, -8000);
        x.say(1, -8000);
        x.tick(1);
        due("not below -8000", x.heard(2), -8064);
        x.say(0, 100);
        x.say(1, 200);
        x.say(2, -50);
        x.tick(1);
        // Given are 102, 204, -50; the sums 154, 52, 306 are heard by the law.
        due("204 - 50", x.heard(0), 156);
        due("102 - 50", x.heard(1), 54);
        due("102 + 204", x.heard(2), 312);
    }

    // ---- 20

    static void promise20_circuit() {
        town(3, 0);
        usualPlan();
        int[][] bad = {{-1, 0}, {2, 0}, {0, -1}, {0, 3}, {1, 3}};
        for (int[] b : bad) due("wrong input", x.circuit(b[0], b[1]), BAD);
        call(0, 3, 2, 4);
        due("out", x.circuit(0, 0), 1);
        due("not known there", x.circuit(1, 0), 0);
        x.tick(1);
        due("not yet", x.circuit(1, 0), 0);
        x.tick(1);
        due("in", x.circuit(1, 0), 2);
        call(1, 3, 2, 5);
        due("the lowest idle", x.circuit(0, 1), 1);
        call(8, 3, 2, 5);
        due("the highest idle", x.circuit(1, 2), 1);
        x.tick(10);
        hang(0);
        due("clearing", x.circuit(0, 0), 3);
        x.tick(2);
        due("idle there", x.circuit(1, 0), 0);
        due("rung no more", x.line(12, 1), 0);
        due("clearing still", x.circuit(0, 0), 3);
        x.tick(2);
        due("idle", x.circuit(0, 0), 0);
        call(0, 3, 9, 9);
        x.tick(2);
        due("wrong there: clearing", x.circuit(1, 0), 3);
        x.tick(2);
        due("REL came: idle", x.circuit(0, 0), 0);
        due("cause", x.line(0, 4), 1);
        x.tick(2);
        due("RLC came: idle", x.circuit(1, 0), 0);
    }

    static void promise20_bothTakeOneCircuit() {
        for (int circuits = 1; circuits <= 2; circuits++) {
            // Only circuit 0 is idle at both ends: exchange 1 gives way for it.
            town(circuits, 0);
            usualPlan();
            if (circuits == 2) {
                row(1, 1, 2, 0, 0, 6);
                call(15, 6);
                x.tick(8);
                x.hook(15, false);
                x.tick(50);
                due("all idle", x.told(4), 2);
            }
            x.hook(0, true);
            x.hook(8, true);
            x.hook(9, true);
            x.tick(1);
            for (int k : new int[] {3, 2, 4}) {
                x.dial(0, k);
                x.dial(8, k);
                if (circuits == 2) x.dial(9, k);
            }
            x.tick(3);
            due("out here", x.circuit(0, 0), 1);
            due("out there", x.circuit(1, 0), 1);
            x.tick(2);
            due("exchange 0 keeps it", x.circuit(0, 0), 1);
            due("exchange 1 gives way", x.circuit(1, 0), 2);
            due("line 12 is rung", x.line(12, 1), 5);
            int lost = circuits == 1 ? 8 : 9;
            due("the older call there finds none", x.line(lost, 4), 3);
            x.tick(2);
            due("ringing here", x.line(0, 2), 2);
        }
        town(2, 0);
        usualPlan();
        x.hook(0, true);
        x.hook(1, true);
        x.hook(8, true);
        x.tick(1);
        for (int k : new int[] {3, 2, 4}) {
            x.dial(0, k);
            x.dial(1, k == 4 ? 5 : k);
            x.dial(8, k);
        }
        x.tick(5);
        due("exchange 0 gives way for circuit 1", x.circuit(0, 1), 2);
        due("its call finds none", x.line(1, 4), 3);
        due("exchange 1 keeps it", x.circuit(1, 1), 1);
    }

    static void promise20_messages() {
        town(4, 0);
        usualPlan();
        // By exchange 1 and back: the call goes over two circuits.
        row(0, 4, 1, 0, 0, 5);
        row(1, 4, 1, 2, 0, 5);
        call(0, 5, 0, 2, 1);
        x.tick(2);
        due("in", x.circuit(1, 0), 2);
        due("and out", x.circuit(1, 3), 1);
        x.tick(2);
        due("line 1 is rung", x.line(1, 1), 5);
        x.tick(3);
        due("ACM goes on", x.line(0, 2), 1);
        x.tick(1);
        due("ACM came", x.line(0, 2), 2);
        lift(1);
        x.tick(4);
        due("ANM came", x.line(0, 2), 3);
        x.tick(2);
        due("messages of exchange 0: IAM, ACM, ANM", x.link(0, 0), 3);
        due("messages of exchange 1: IAM, ACM, ANM", x.link(1, 0), 3);
        due("all are acknowledged", x.link(1, 1), 3);
        hang(1);
        x.tick(10);
        due("all idle", x.told(4), 4);
        due("cause", x.line(0, 4), 7);
        due("no calls", x.told(2), 0);
        // A room answers at once: ACM and then ANM go, in the units of tick n + 2 and the next.
        hang(0);
        row(0, 2, 1, 1, 2, 4);
        int made = x.link(1, 0);
        int got = x.link(1, 3) + 1;
        call(0, 4, 8);
        int n = x.told(0) - 1;
        x.tick(10);
        due("in talk with a room there", x.line(0, 2), 3);
        due("ACM and ANM", x.link(1, 0), made + 2);
        dueText("ACM", bits(1, n + 2), text(got, 1, made + 1, 1, 0, 2));
        dueText("ANM", bits(1, n + 3), text(got, 1, made + 2, 1, 0, 3));
        due("in the room", x.room(1, 0), 1);
    }

    // ---- 21

    static void promise21_speech() {
        town(2, 0);
        usualPlan();
        int[][] bad = {{-1, 0}, {2, 0}, {0, -1}, {0, 2}};
        for (int[] b : bad) due("wrong input", x.speech(b[0], b[1]), BAD);
        x.say(0, 8000);
        x.say(12, -8000);
        call(0, 3, 2, 4);
        x.tick(4);
        due("ringing: that of 0", x.speech(0, 0), 213);
        lift(12);
        due("in talk there", x.speech(1, 0), 42);
        due("not in talk here", x.speech(0, 0), 213);
        due("line 12 hears the byte of 0", x.heard(12), 2);
        x.tick(1);
        due("not yet", x.heard(0), 0);
        x.tick(1);
        due("in talk", x.speech(0, 0), 170);
        due("what was put in the tick before", x.heard(0), -8064);
        due("line 12 not yet", x.heard(12), 2);
        x.tick(1);
        due("now", x.heard(12), 8031);
        due("the other circuit", x.speech(0, 1), 213);
        x.hook(0, false);
        x.tick(40);
        due("over: that of 0", x.speech(0, 0), 213);
    }

    // ---- 22, 23

    static void promise22_group() {
        town(2, 0);
        usualPlan();
        int[][] bad = {{-1, 0, 0}, {2, 0, 0}, {0, -1, 0}, {0, 3, 0}, {0, 0, -1}, {0, 0, 2}};
        for (int[] b : bad) due("wrong input", x.group(b[0], b[1], b[2]), BAD);
        x.waiting(0, 0, 10);
        x.member(0, 1);
        // A group rings one that does not disturb, or forwards always.
        x.feature(1, 0, true);
        call(0, 7);
        due("rung", x.line(1, 1), 5);
        due("nobody waits", x.group(0, 0, 0), 0);
        for (int l = 2; l < 8; l++) call(l, 7);
        due("six wait", x.group(0, 0, 0), 6);
        hang(2);
        due("five wait", x.group(0, 0, 0), 5);
        due("one member", x.group(0, 0, 1), 1);
        due("of another", x.group(1, 0, 0), 0);
        lift(1);
        due("a member talks", x.partner(1), 0);
        hang(1);
        due("the next", x.line(3, 2), 2);
        due("four wait", x.group(0, 0, 0), 4);
        row(1, 2, 1, 1, 0, 9);
        call(8, 9, 7);
        x.tick(4);
        due("a call by a circuit waits", x.group(0, 0, 0), 5);
        due("its caller hears ringing", x.line(8, 2), 2);
    }

    static void promise23_room() {
        town(2, 0);
        usualPlan();
        int[][] bad = {{-1, 0}, {2, 0}, {0, -1}, {0, 2}};
        for (int[] b : bad) due("wrong input", x.room(b[0], b[1]), BAD);
        due("at first", x.room(0, 0), 0);
        for (int l = 0; l < 8; l++) {
            call(l, 8);
            due("calls", x.room(0, 0), l + 1);
        }
        due("the other room", x.room(0, 1), 0);
        due("the other exchange", x.room(1, 0), 0);
        row(1, 2, 1, 1, 0, 9);
        call(8, 9, 8);
        x.tick(6);
        due("the ninth", x.line(8, 4), 2);
        due("eight are in", x.room(0, 0), 8);
        hang(3);
        due("seven", x.room(0, 0), 7);
        hang(8);
        call(8, 9, 8);
        x.tick(6);
        due("by a circuit", x.room(0, 0), 8);
        due("in talk", x.line(8, 2), 3);
        row(1, 1, 4, 1, 3, 10);
        x.tariff(3, 10, 5, 0, 0);
        x.credit(9, 9);
        call(9, 10);
        due("no credit: not in it", x.room(1, 1), 0);
        due("cause", x.line(9, 4), 5);
    }

    // ---- 24

    static void promise24_link() {
        town(2, 0);
        usualPlan();
        int[][] bad = {{-1, 0}, {2, 0}, {0, -1}, {0, 7}};
        for (int[] b : bad) due("wrong input", x.link(b[0], b[1]), BAD);
        call(0, 3, 2, 4);
        due("made", x.link(0, 0), 1);
        due("next", x.link(0, 2), 1);
        due("acked", x.link(0, 1), 0);
        x.tick(2);
        due("got", x.link(1, 3), 1);
        due("ACM is made", x.link(1, 0), 1);
        x.tick(1);
        due("not acked", x.link(0, 1), 0);
        x.tick(1);
        due("acked", x.link(0, 1), 1);
        due("got", x.link(0, 3), 1);
        due("fib", x.link(0, 4), 1);
        due("bib", x.link(0, 5), 1);
        x.spoil(1, x.told(0), 3);
        x.spoil(1, x.told(0) + 1, 50);
        x.tick(4);
        due("spoiled", x.link(0, 6), 2);
        due("not there", x.link(1, 6), 0);
    }

    static void promise24_linkAgain() {
        town(4, 0);
        usualPlan();
        // Three IAMs go in ticks 3, 4, 5, the first is spoiled: the second turns BIB in tick 6.
        for (int l = 0; l < 3; l++) x.hook(l, true);
        x.tick(1);
        for (int l = 0; l < 3; l++) {
            x.dial(l, 3);
            x.dial(l, 2);
            x.dial(l, 4 + l);
        }
        x.spoil(0, 3, 40);
        x.tick(3);
        due("three are made", x.link(0, 0), 3);
        due("one is sent", x.link(0, 2), 1);
        x.tick(2);
        due("spoiled", x.link(1, 6), 1);
        x.tick(1);
        due("turned", x.link(1, 5), 0);
        x.tick(1);
        due("what comes with the old FIB is left", x.link(1, 3), 0);
        due("not turned again", x.link(1, 5), 0);
        x.tick(1);
        due("all go again from the first", x.link(0, 2), 1);
        due("FIB is that", x.link(0, 4), 0);
        x.tick(2);
        due("the first came", x.link(1, 3), 1);
        x.tick(2);
        due("all came", x.link(1, 3), 3);
        due("line 12", x.line(12, 1), 5);
        due("line 13", x.line(13, 1), 5);
        due("line 14", x.line(14, 1), 5);
        x.tick(3);
        due("all acked", x.link(0, 1), 3);
    }

    static void promise24_nextBelowAcked() {
        town(4, 0);
        usualPlan();
        for (int l = 0; l < 3; l++) x.hook(l, true);
        x.tick(1);
        for (int l = 0; l < 3; l++) {
            x.dial(l, 3);
            x.dial(l, 2);
            x.dial(l, 4 + l);
        }
        // IAMs go in ticks 3, 4, 5, ACMs come back in units 5, 6, 7: these are lost or forged.
        x.lose(1, 5);
        turnInto(1, 6, text(2, 1, 2, 1, 1, 2), text(0, 0, 0, 1));
        turnInto(1, 7, text(3, 1, 3, 1, 2, 2), text(3, 0, 0, 1));
        x.tick(8);
        due("another BIB: all go again", x.link(0, 2), 1);
        due("nothing is acked", x.link(0, 1), 0);
        x.tick(1);
        due("all are acked", x.link(0, 1), 3);
        due("NEXT was below", x.link(0, 2), 3);
        due("FIB", x.link(0, 4), 0);
    }

    // ---- 25

    static void promise25_bit() {
        town(2, 0);
        row(0, 2, 2, 0, 0, 0);
        row(0, 2, 2, 0, 0, 3);
        due("bit(-1)", x.bit(-1, 0, 0), BAD);
        due("bit(2)", x.bit(2, 0, 0), BAD);
        due("none was sent", x.bit(0, 0, 0), NONE);
        call(0, 0, 2);
        dueText("a unit without message", bits(1, 0),
                "01111110000000010000000100000000001101110110001001111110");
        dueText("an IAM with 0 2", bits(0, 2), "0111111000000001100000010110000000000000100000"
                + "00000000000100000000000000010000000111001001011111001111110");
        due("behind its last bit", x.bit(0, 2, 105), NONE);
        due("bit -1", x.bit(0, 2, -1), NONE);
        due("bit MAX", x.bit(0, 2, MAX), NONE);
        due("unit -1", x.bit(0, -1, 0), NONE);
        due("unit NOW", x.bit(0, 3, 0), NONE);
        x.tick(63);
        due("the 64th before", x.bit(0, 2, 1), 1);
        due("the 65th before", x.bit(0, 1, 1), NONE);
        x.tick(1);
        due("the 65th before now", x.bit(0, 2, 1), NONE);
        town(1, 0);
        row(0, 2, 2, 0, 0, 3);
        call(0, 3, 8);
        dueText("an IAM with 3 8", bits(0, 2), "0111111000000001100000010110000000000000100000"
                + "000000000001000000110000000001000000111110011111011001111110");
        town(1, 0);
        row(0, 12, 1, 0, 0, 1);
        call(0, 1, 11, 7, 7, 0, 3, 9, 10, 2, 11, 7, 4);
        dueText("an IAM with twelve keys", bits(0, 12),
                text(0, 1, 1, 1, 0, 1, 0, 12, 1, 11, 7, 7, 0, 3, 9, 10, 2, 11, 7, 4));
        x.tick(2);
        dueText("REL of a new exchange", bits(1, 14), text(1, 1, 1, 1, 0, 4, 1));
        x.tick(2);
        dueText("RLC", bits(0, 16), text(1, 1, 2, 1, 0, 5));
    }

    // ---- 26

    static void promise26_record() {
        town(2, 0);
        usualPlan();
        x.tariff(1, 7, 10, 2, 1);
        due("what -1", x.record(0, -1), BAD);
        due("what 5", x.record(0, 5), BAD);
        due("none", x.record(0, 0), NONE);
        due("i -1", x.record(-1, 0), NONE);
        due("i MAX", x.record(MAX, 4), NONE);
        call(3, 3, 2, 4);
        x.tick(4);
        lift(12);
        x.tick(2);
        int begin = x.told(0) - 1;
        x.tick(20);
        hang(12);
        due("not over here", x.record(0, 0), NONE);
        x.tick(2);
        due("line", x.record(0, 0), 3);
        due("zone", x.record(0, 1), 1);
        due("begin", x.record(0, 2), begin);
        due("end", x.record(0, 3), begin + 62);
        due("cents", x.record(0, 4), 7 + 1 + 6);
        due("no more of it", x.record(1, 0), NONE);
        call(9, 2, 2);
        hang(9);
        due("not answered: none", x.told(3), 1);
        keys(3, 2, 7);
        x.forward(2, 0);
        call(0, 2, 2);
        x.tick(4);
        lift(15);
        x.tick(2);
        hang(0);
        due("the zone of the first row", x.record(1, 1), 0);
        due("its line", x.record(1, 0), 0);
    }

    // ---- 27

    static void promise27_told() {
        town(3, 0);
        usualPlan();
        due("told(-1)", x.told(-1), BAD);
        due("told(5)", x.told(5), BAD);
        due("calls", x.told(1), 0);
        call(0, 3, 2, 4);
        due("now", x.told(0), 4);
        due("one call", x.told(1), 1);
        due("idle at both ends", x.told(4), 2);
        x.tick(2);
        due("one in each exchange", x.told(1), 2);
        due("not over", x.told(2), 2);
        lift(12);
        due("no new call", x.told(1), 2);
        x.tick(4);
        hang(0);
        due("one is over", x.told(2), 1);
        due("a record", x.told(3), 1);
        due("idle at both ends", x.told(4), 2);
        x.tick(4);
        due("both are over", x.told(2), 0);
        due("all idle", x.told(4), 3);
        due("only the line's call has a record", x.told(3), 1);
        due("made", x.told(1), 2);
    }
}
