/**
 * The boundary cases of circuits and of the messages that come: promises 20 and 24. Each sentence
 * of the document that names one has a method of its own.
 */
public final class MessageBoundariesTest extends Forger {
    private static final int IDLE = 0, OUT = 1, IN = 2, CLEARING = 3;
    private static final int IAM = 1, ACM = 2, ANM = 3, REL = 4, RLC = 5;

    public static void main(String[] args) throws ReflectiveOperationException {
        runAll(MessageBoundariesTest.class);
    }

    // ---- states of a circuit at exchange 1: the highest one is OUT, circuit 0 IN

    /** Line 8 sends its IAM in the tick in which the forged unit is sent. */
    private static final Runnable SENT = () -> {
        call(8, 3, 2);
        x.dial(8, 4);
    };

    private static final Runnable RINGING = () -> {
        call(8, 3, 2, 4);
        x.tick(6);
    };

    private static final Runnable TALK = () -> {
        RINGING.run();
        lift(4);
        x.tick(4);
    };

    private static final Runnable COMING = () -> {
        call(0, 3, 2, 4);
        x.tick(6);
    };

    private static final Runnable COMING_TALK = () -> {
        COMING.run();
        lift(12);
        x.tick(4);
    };

    /** Line 8 hangs up in the tick in which the forged unit is sent. */
    private static final Runnable OVER = () -> {
        RINGING.run();
        x.hook(8, false);
        x.tick(39);
    };

    /** What can be seen at exchange 1 when the message has come. */
    private static int[] seen(int circuits, Runnable state, int... message) {
        forge(circuits, state, message);
        x.tick(1);
        int[] seen = new int[circuits + 9];
        for (int c = 0; c < circuits; c++) seen[c] = x.circuit(1, c);
        for (int i = 0; i < 3; i++) seen[circuits + i] = x.told(1 + i);
        seen[circuits + 3] = x.link(1, 0);
        seen[circuits + 4] = x.link(1, 3);
        seen[circuits + 5] = x.line(8, 2);
        seen[circuits + 6] = x.line(12, 1);
        seen[circuits + 7] = x.link(1, 6);
        seen[circuits + 8] = x.line(12, 2);
        return seen;
    }

    /** The message does no more than one whose TYPE 0 there is not. */
    private static void dueNothing(String what, int circuits, Runnable state, int... message) {
        int[] want = seen(circuits, state, 0, 0);
        int[] got = seen(circuits, state, message);
        for (int i = 0; i < want.length; i++) due(what + ": seen " + i, got[i], want[i]);
    }

    /** The states of the circuit, and of line 8's active call, when the message has come. */
    private static void dueDone(String what, int made, int circuit, int state, int active) {
        int before = x.link(1, 0);
        x.tick(1);
        due(what + ": circuit", x.circuit(1, circuit), state);
        due(what + ": line 8", x.line(8, 2), active);
        due(what + ": messages made", x.link(1, 0) - before, made);
    }

    // ---- 20: circuit

    static void promise20_exchangeIs0Or1() {
        town(2, 0);
        for (int e : new int[] {MIN, -1, 2, MAX}) due("exchange " + e, x.circuit(e, 0), BAD);
        due("exchange 0", x.circuit(0, 0), 0);
        due("exchange 1", x.circuit(1, 0), 0);
    }

    static void promise20_circuitIs0ToCLess1() {
        for (int circuits : new int[] {1, 2, 15, 16}) {
            town(circuits, 0);
            for (int e = 0; e < 2; e++) {
                for (int c : new int[] {MIN, -1, circuits, 16, MAX}) {
                    due("circuit " + c, x.circuit(e, c), BAD);
                }
                due("circuit 0", x.circuit(e, 0), 0);
                due("the last one", x.circuit(e, circuits - 1), 0);
            }
        }
    }

    static void promise20_theLowestFrom0TheHighestFrom1() {
        town(16, 0);
        for (int e = 0; e < 2; e++) {
            row(e, 1, 1, 0, 0, 1 + e);
            row(1 - e, 1, 4, 0, 0, 1 + e);
        }
        for (int i = 0; i < 8; i++) {
            call(i, 1);
            due("from 0", x.circuit(0, i), OUT);
            call(8 + i, 2);
            due("from 1", x.circuit(1, 15 - i), OUT);
        }
        x.tick(10);
        for (int c = 0; c < 16; c++) {
            due("at 0", x.circuit(0, c), c < 8 ? OUT : IN);
            due("at 1", x.circuit(1, c), c < 8 ? IN : OUT);
        }
        due("idle ones", x.told(4), 0);
        hang(3);
        x.tick(4);
        due("idle ones", x.told(4), 1);
        hang(15);
        x.tick(4);
        call(15, 2);
        due("of two the highest", x.circuit(1, 8), OUT);
        call(3, 1);
        due("the lowest that is idle", x.circuit(0, 3), OUT);
    }

    static void promise20_aUnitComesTwoTicksBehindItsOwn() {
        usualTown(1);
        call(0, 3, 2, 4);
        due("tick n", x.circuit(1, 0), IDLE);
        x.tick(1);
        due("tick n + 1", x.circuit(1, 0), IDLE);
        x.tick(1);
        due("tick n + 2", x.circuit(1, 0), IN);
    }

    // ---- 20: messages in states

    static void promise20_iamAtAnIdleCircuit() {
        forge(4, NOTHING, 3, IAM, 0, 2, 2, 4);
        dueDone("ACM goes", 1, 3, IN, NONE);
        due("rung", x.line(12, 1), 5);
        due("calls", x.told(1), 2);
    }

    static void promise20_iamThatIsNotWholeFails1() {
        int[][] keys = {{0}, {1, 2}, {1, 9}, {3, 2, 2, 2}};
        for (int[] k : keys) {
            int[] iam = new int[3 + k.length];
            System.arraycopy(new int[] {3, IAM, 0}, 0, iam, 0, 3);
            System.arraycopy(k, 0, iam, 3, k.length);
            forge(4, NOTHING, iam);
            dueDone("REL goes", 1, 3, CLEARING, NONE);
            due("calls", x.told(1), 2);
            due("of these not over", x.told(2), 1);
            x.tick(2);
            due("RLC is on its way", x.circuit(1, 3), CLEARING);
        }
    }

    static void promise20_iamInOtherStatesIsNothing() {
        dueNothing("sent, and 3 mod 2 is this exchange", 4, SENT, 3, IAM, 0, 2, 2, 5);
        for (int circuits = 3; circuits <= 4; circuits++) {
            int c = circuits - 1;
            dueNothing("ringing", circuits, RINGING, c, IAM, 0, 2, 2, 5);
            dueNothing("talk", circuits, TALK, c, IAM, 0, 2, 2, 5);
            dueNothing("clearing", circuits, OVER, c, IAM, 0, 2, 2, 5);
            dueNothing("in", circuits, COMING, 0, IAM, 0, 2, 2, 5);
        }
    }

    static void promise20_iamAtASentCircuitOfTheOtherExchange() {
        forge(3, SENT, 2, IAM, 0, 2, 2, 5);
        dueDone("IAM and ACM go", 2, 2, IN, 1);
        due("the older call has another", x.circuit(1, 1), OUT);
        due("rung", x.line(13, 1), 5);
    }

    static void promise20_placedAnewItFindsNoCircuit() {
        forge(1, SENT, 0, IAM, 0, 2, 2, 5);
        dueDone("ACM goes", 1, 0, IN, NONE);
        due("cause", x.line(8, 4), 3);
        due("rung", x.line(13, 1), 5);
    }

    static void promise20_acmAtSentAlone() {
        forge(4, SENT, 3, ACM);
        dueDone("ringing", 0, 3, OUT, 2);
        dueNothing("idle", 4, NOTHING, 2, ACM);
        dueNothing("ringing", 4, RINGING, 3, ACM);
        dueNothing("talk", 4, TALK, 3, ACM);
        dueNothing("in", 4, COMING, 0, ACM);
        dueNothing("in and in talk", 4, COMING_TALK, 0, ACM);
        dueNothing("clearing", 4, OVER, 3, ACM);
    }

    static void promise20_anmAtSentOrRingingAlone() {
        forge(4, SENT, 3, ANM);
        dueDone("sent", 0, 3, OUT, 3);
        forge(4, RINGING, 3, ANM);
        dueDone("ringing", 0, 3, OUT, 3);
        dueNothing("idle", 4, NOTHING, 2, ANM);
        dueNothing("talk", 4, TALK, 3, ANM);
        dueNothing("in", 4, COMING, 0, ANM);
        dueNothing("in and in talk", 4, COMING_TALK, 0, ANM);
        dueNothing("clearing", 4, OVER, 3, ANM);
    }

    static void promise20_relAtIdleIsNothing() {
        dueNothing("idle", 4, NOTHING, 2, REL, 7);
    }

    static void promise20_relAtOutOrInMakesItIdle() {
        Runnable[] states = {SENT, RINGING, TALK};
        for (Runnable state : states) {
            forge(4, state, 3, REL, 7);
            dueDone("RLC goes", 1, 3, IDLE, NONE);
            due("cause", x.line(8, 4), 7);
        }
        forge(4, COMING, 0, REL, 7);
        due("rung", x.line(12, 1), 5);
        dueDone("RLC goes", 1, 0, IDLE, NONE);
        due("rung no more", x.line(12, 1), 0);
    }

    static void promise20_relAtClearingLeavesItSo() {
        for (int cause = 1; cause <= 8; cause++) {
            forge(4, OVER, 3, REL, cause);
            dueDone("RLC goes", 1, 3, CLEARING, NONE);
        }
    }

    static void promise20_rlcAtClearingAlone() {
        forge(4, OVER, 3, RLC);
        dueDone("clearing", 0, 3, IDLE, NONE);
        dueNothing("idle", 4, NOTHING, 2, RLC);
        dueNothing("sent", 4, SENT, 3, RLC);
        dueNothing("ringing", 4, RINGING, 3, RLC);
        dueNothing("talk", 4, TALK, 3, RLC);
        dueNothing("in", 4, COMING, 0, RLC);
        dueNothing("in and in talk", 4, COMING_TALK, 0, RLC);
    }

    static void promise20_anyByteIsACause() {
        int[][] causes = {{0, 3}, {1, 4}, {2, 3}, {8, 3}, {128, 3}, {255, 3}};
        for (int[] c : causes) {
            forge(4, RINGING, 3, REL, c[0]);
            x.tick(1);
            due("cause", x.line(8, 4), c[0]);
            due("tone of " + c[0], x.line(8, 1), c[1]);
        }
    }

    // ---- 20: which messages go

    static void promise20_acmGoesOnce() {
        // It waits, rings, waits, rings and is answered: ACM and ANM.
        town(1, 0);
        row(0, 1, 1, 0, 0, 7);
        row(1, 1, 3, 0, 0, 7);
        x.waiting(1, 0, 1);
        call(0, 7);
        x.tick(4);
        due("it waits: ACM", x.link(1, 0), 1);
        x.member(0, 9);
        x.tick(1);
        due("it rings", x.line(9, 1), 5);
        x.tick(300);
        due("it waits", x.group(1, 0, 0), 1);
        x.member(0, 10);
        x.tick(1);
        due("no more went", x.link(1, 0), 1);
        lift(10);
        due("it is answered: ANM", x.link(1, 0), 2);
        due("ringing here", x.line(0, 2), 2);
        x.tick(2);
        due("in talk here", x.line(0, 2), 3);
    }

    static void promise20_failsWithoutAcm() {
        // A line there is busy: REL alone goes.
        usualTown(1);
        lift(12);
        call(0, 3, 2, 4);
        x.tick(2);
        due("REL", x.link(1, 0), 1);
        x.tick(2);
        due("cause", x.line(0, 4), 2);
        due("RLC", x.link(0, 0), 2);
    }

    static void promise20_overByACircuitTellsTheOtherSideAlone() {
        usualTown(1);
        call(0, 3, 2, 4);
        x.tick(4);
        lift(12);
        x.tick(2);
        hang(0);
        x.tick(2);
        due("line 12 is told", x.line(12, 4), 7);
        due("RLC, no REL: ACM, ANM, RLC", x.link(1, 0), 3);
        due("no record there", x.told(3), 1);
    }

    // ---- 20: in which order they go

    /** Unit n of an exchange has this message; BSN and the indicators are as they are now. */
    private static void dueUnit(String what, int exchange, int n, int fsn, int... message) {
        String due = text(x.link(exchange, 3), x.link(exchange, 5), fsn, x.link(exchange, 4),
                message);
        dueText(what, bits(exchange, n), due);
    }

    static void promise20_placedAnewAheadOfTheCallThatComes() {
        forge(3, SENT, 2, IAM, 0, 2, 2, 5);
        x.tick(2);
        int n = x.told(0) - 2;
        dueUnit("IAM with the same keys", 1, n, 2, 1, IAM, 0, 2, 2, 4);
        dueUnit("ACM", 1, n + 1, 3, 2, ACM);
    }

    static void promise20_placedAnewOnceForwarded() {
        forge(3, () -> {
            keys(3, 2, 4);
            x.forward(9, 0);
            call(8, 2);
            x.dial(8, 1);
        }, 2, IAM, 0, 2, 2, 5);
        x.tick(2);
        int n = x.told(0) - 2;
        dueUnit("by the row and the keys it was forwarded to", 1, n, 2, 1, IAM, 1, 2, 2, 4);
        dueUnit("ACM", 1, n + 1, 3, 2, ACM);
    }

    /** By exchange 1 and back: there side A is circuit 0 and side B circuit 3. */
    private static void tandemTown() {
        town(4, 0);
        row(0, 2, 2, 0, 0, 5);
        row(1, 2, 2, 1, 0, 5);
        row(0, 1, 0, 1, 0, 1);
    }

    static void promise20_acmAndAnmGoOn() {
        tandemTown();
        call(0, 5, 1);
        x.tick(6);
        due("ringing, IAM and ACM of exchange 1", x.link(1, 0), 2);
        dueUnit("ACM", 1, x.told(0) - 1, 2, 0, ACM);
        lift(1);
        x.tick(2);
        dueUnit("ANM", 1, x.told(0) - 1, 3, 0, ANM);
    }

    static void promise20_rlcAheadOfTheRelThatGoesOn() {
        tandemTown();
        call(0, 5, 1);
        x.tick(10);
        hang(0);
        x.tick(3);
        int n = x.told(0) - 2;
        dueUnit("RLC to where REL came from", 1, n, 3, 0, RLC);
        dueUnit("REL to the other side", 1, n + 1, 4, 3, REL, 7);
    }

    static void promise20_overTellsAAndThenB() {
        // Exchange 1 sends its IAM in tick n and in each fifth one behind it, and it is lost. REL
        // of exchange 0, whose call was SENT two ticks earlier, is lost too, and so is with it the
        // BIB that asks for the IAM: all goes again from tick n + 501 on.
        tandemTown();
        int n = 4;
        for (int i = 0; i < 500; i += 5) x.lose(1, n + i);
        x.lose(0, n + 498);
        call(0, 5, 1);
        x.tick(n + 504 - x.told(0));
        due("circuit 0", x.circuit(1, 0), CLEARING);
        due("circuit 3", x.circuit(1, 3), CLEARING);
        dueUnit("REL to side A", 1, n + 502, 2, 0, REL, 6);
        dueUnit("REL to side B", 1, n + 503, 3, 3, REL, 6);
    }

    static void promise20_hangingUpActiveIsOverAheadOfOther() {
        // Line 0 talks by circuit 3, and then by circuit 2.
        usualTown(4);
        x.feature(0, 2, true);
        call(8, 3, 2, 0);
        x.tick(4);
        lift(0);
        call(9, 3, 2, 0);
        x.tick(4);
        flash(0);
        due("partner", x.partner(0), 102);
        hang(0);
        x.tick(1);
        int n = x.told(0) - 2;
        dueUnit("REL of active", 0, n, 5, 2, REL, 7);
        dueUnit("REL of other", 0, n + 1, 6, 3, REL, 7);
    }

    // ---- 24: messages that are not so

    /** An IAM in which one byte is another one, and the number of its bytes is as told. */
    private static int[] iam(int circuit, int forwards, int told, int... keys) {
        int[] m = new int[4 + keys.length];
        System.arraycopy(new int[] {circuit, IAM, forwards, told}, 0, m, 0, 4);
        System.arraycopy(keys, 0, m, 4, keys.length);
        return m;
    }

    static void promise24_noSuchCircuit() {
        for (int c : new int[] {2, 3, 16, 128, 255}) {
            dueNothing("circuit " + c, 2, NOTHING, iam(c, 0, 2, 2, 4));
        }
        forge(2, NOTHING, iam(1, 0, 2, 2, 4));
        dueDone("circuit 1", 1, 1, IN, NONE);
        forge(16, NOTHING, iam(15, 0, 2, 2, 4));
        dueDone("circuit 15", 1, 15, IN, NONE);
        dueNothing("circuit 16", 16, NOTHING, iam(16, 0, 2, 2, 4));
    }

    static void promise24_noSuchType() {
        for (int type : new int[] {6, 7, 12, 128, 129, 255}) {
            dueNothing("type " + type, 4, RINGING, 3, type);
            dueNothing("type " + type, 4, RINGING, 3, type, 7);
            dueNothing("type " + type, 4, NOTHING, 3, type, 0, 2, 2, 4);
        }
    }

    static void promise24_forwardsAbove5() {
        for (int f : new int[] {6, 7, 8, 128, 255}) {
            dueNothing("forwards " + f, 2, NOTHING, iam(0, f, 2, 2, 4));
        }
        for (int f = 0; f <= 5; f++) {
            forge(2, NOTHING, iam(0, f, 2, 2, 4));
            dueDone("forwards " + f, 1, 0, IN, NONE);
        }
    }

    static void promise24_fiveForwardsOfAnIamAreAllThereMayBe() {
        Runnable forwards = () -> {
            keys(2, 5);
            x.forward(12, 0);
        };
        for (int c = 0; c < 2; c++) {
            forge(2, forwards, iam(c, 4, 2, 2, 4));
            dueDone("the fifth", 1, c, IN, NONE);
            due("rung", x.line(13, 1), 5);
            forge(2, forwards, iam(c, 5, 2, 2, 4));
            dueDone("the sixth", 1, c, CLEARING, NONE);
            due("not rung", x.line(13, 1), 0);
        }
    }

    static void promise24_otherNumbersOfKeysThanTold() {
        for (int told : new int[] {0, 1, 3, 12, 13, 128, 255}) {
            dueNothing("told " + told, 2, NOTHING, iam(0, 0, told, 2, 4));
            dueNothing("with five forwards", 2, NOTHING, iam(0, 5, told, 2, 4));
        }
        dueNothing("none is told to be none", 2, NOTHING, iam(0, 0, 1));
    }

    static void promise24_upToTwelveKeys() {
        int[] twelve = {9, 9, 9, 9, 9, 9, 9, 9, 9, 9, 9, 8};
        forge(2, NOTHING, iam(0, 0, 12, twelve));
        dueDone("twelve are wrong here: REL", 1, 0, CLEARING, NONE);
        dueNothing("thirteen are told", 2, NOTHING, iam(0, 0, 13, twelve));
        dueNothing("eleven are told", 2, NOTHING, iam(0, 0, 11, twelve));
    }

    static void promise24_keysAbove11() {
        forge(2, NOTHING, iam(0, 0, 2, 2, 11));
        dueDone("key 11 is wrong here: REL", 1, 0, CLEARING, NONE);
        for (int k : new int[] {12, 15, 16, 20, 255}) {
            dueNothing("the last key " + k, 2, NOTHING, iam(0, 0, 2, 2, k));
            dueNothing("the first key " + k, 2, NOTHING, iam(0, 0, 2, k, 4));
            dueNothing("with five forwards", 2, NOTHING, iam(0, 5, 2, 2, k));
        }
        dueNothing("the last of twelve", 2, NOTHING,
                iam(0, 0, 12, 9, 9, 9, 9, 9, 9, 9, 9, 9, 9, 9, 14));
    }

    static void promise24_tooFewBytes() {
        dueNothing("a circuit alone", 4, RINGING, 3);
        dueNothing("IAM of two", 4, NOTHING, 3, IAM);
        dueNothing("IAM of three", 4, NOTHING, 3, IAM, 0);
        dueNothing("REL of two", 4, RINGING, 3, REL);
    }

    static void promise24_tooManyBytes() {
        dueNothing("ACM of three", 4, SENT, 3, ACM, 0);
        dueNothing("ANM of three", 4, SENT, 3, ANM, 0);
        dueNothing("REL of four", 4, RINGING, 3, REL, 7, 0);
        dueNothing("RLC of three", 4, OVER, 3, RLC, 0);
    }

    static void promise24_whatIsNothingIsGotAllTheSame() {
        int[][] messages = {{0}, {0, 0}, {9, IAM, 0, 2, 2, 4}, {0, IAM, 6, 2, 2, 4}, {0, ACM},
            {0, REL, 7}};
        for (int[] m : messages) {
            forge(2, NOTHING, m);
            x.tick(1);
            due("got", x.link(1, 3), 1);
            due("not spoiled", x.link(1, 6), 0);
            due("BIB is not turned", x.link(1, 5), 1);
        }
    }
}
