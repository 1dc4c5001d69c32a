/**
 * Cases in which several sentences of the document meet: a call that is forwarded and then times
 * out, a line that is away and is rung by itself, a call that is placed anew though a row was
 * added, and their like.
 */
public final class CombinedTest extends Forger {
    private static final int DIALLING = 0, SENT = 1, RINGING = 2, TALK = 3, WAITING = 4;
    private static final int IDLE = 0, OUT = 1, IN = 2, CLEARING = 3;
    private static final int IAM = 1;
    private static final int NOT_DISTURB = 0, BARRED = 1, HAS_WAITING = 2;
    private static final int ALWAYS = 0, WHEN_BUSY = 1, WITHOUT_ANSWER = 2;

    public static void main(String[] args) throws ReflectiveOperationException {
        runAll(CombinedTest.class);
    }

    private static void dueState(String what, int line, int state) {
        due(what + ": state of line " + line, x.line(line, 2), state);
    }

    private static void dueOver(String what, int line, int cause) {
        dueState(what, line, NONE);
        due(what + ": cause at line " + line, x.line(line, 4), cause);
    }

    private static void forwards(int line, int when, int... keys) {
        keys(keys);
        x.forward(line, when);
    }

    /** Line 1, which has WAITING, talks to line 0; line 2 calls it. */
    private static void lineWithOther() {
        usualTown(4);
        x.feature(1, HAS_WAITING, true);
        talk(0, 1);
        call(2, 2, 1);
        due("other", x.line(1, 3), 1);
    }

    // ---- 1: the example of README.md

    static void promise1_theExampleOfReadme() {
        town(4, 0);
        x.key(2);
        x.key(1);
        due("plan", x.plan(0, 2, 0, 1, 0), 0);
        x.hook(0, true);
        x.tick(1);
        x.dial(0, 2);
        x.dial(0, 1);
        x.tick(2);
        due("line 1 is rung", x.line(1, 1), 5);
        x.hook(1, true);
        x.tick(1);
        due("they talk", x.partner(0), 1);
    }

    // ---- 7: features

    static void promise7_notDisturbAheadOfAllElse() {
        // FREE, busy, in TALK with WAITING, and with all ways to forward.
        for (int i = 0; i < 4; i++) {
            usualTown(1);
            x.feature(1, HAS_WAITING, true);
            if (i == 1) lift(1);
            if (i >= 2) talk(0, 1);
            if (i == 3) for (int when = 0; when < 3; when++) forwards(1, when, 2, 5);
            x.feature(1, NOT_DISTURB, true);
            x.feature(1, BARRED, i % 2 == 1);
            call(2, 2, 1);
            dueOver("case " + i, 2, 8);
            due("other", x.line(1, 3), 0);
            due("line 5", x.line(5, 1), 0);
        }
    }

    static void promise7_theCallerIsBarredAlsoWhenForwarded() {
        for (int when = 0; when < 3; when++) {
            usualTown(1);
            x.feature(0, BARRED, true);
            forwards(1, when, 3, 2, 4);
            if (when == WHEN_BUSY) lift(1);
            call(0, 2, 1);
            if (when == WITHOUT_ANSWER) x.tick(300);
            dueOver("forwarded " + when, 0, 8);
            due("circuit", x.circuit(0, 0), IDLE);
        }
    }

    static void promise7_whoForwardsMayBeBarred() {
        usualTown(1);
        x.feature(1, BARRED, true);
        forwards(1, ALWAYS, 3, 2, 4);
        call(0, 2, 1);
        dueState("line 0 is not barred", 0, SENT);
        due("circuit", x.circuit(0, 0), OUT);
    }

    static void promise7_aCircuitIsNotBarred() {
        // By exchange 1 and back, where the one that called first is barred.
        town(2, 0);
        row(0, 2, 2, 0, 0, 5);
        row(1, 2, 1, 1, 0, 5);
        row(0, 1, 0, 1, 0, 1);
        x.feature(0, BARRED, true);
        call(0, 5, 1);
        x.tick(4);
        due("rung", x.line(1, 1), 5);
    }

    /** All that can be told of a line, told while it has calls. */
    private static void tellAll(int line) {
        for (int what = 0; what < 3; what++) {
            x.feature(line, what, true);
            forwards(line, what, 2, 7);
        }
    }

    static void promise7_whatIsToldOfALineLeavesItsCallsAlone() {
        usualTown(1);
        tellAll(0);
        call(0, 2, 1);
        due("who does not disturb calls", x.line(0, 1), 2);
        tellAll(1);
        due("rung still", x.line(1, 1), 5);
        lift(1);
        due("talk", x.partner(0), 1);
        for (int what = 0; what < 3; what++) x.feature(1, what, what == HAS_WAITING);
        for (int when = 0; when < 3; when++) forwards(1, when);
        call(2, 2, 1);
        tellAll(1);
        due("other still", x.line(1, 3), 1);
        x.feature(1, HAS_WAITING, false);
        flash(1);
        due("flash answers", x.partner(1), 2);
        int begin = x.told(0) - 1;
        for (int i = 0; i < 3; i++) {
            flash(1);
            due("back and forth", x.partner(1), i % 2 == 0 ? 0 : 2);
        }
        hang(1);
        dueOver("active", 0, 7);
        dueOver("other", 2, 7);
        due("no other", x.line(1, 3), 0);
        due("answered once", x.record(1, 2), begin);
    }

    static void promise7_toldWhileItRingsItRingsOn() {
        // At 300 it is forwarded to line 7, or not, whatever else is told.
        for (int i = 0; i < 2; i++) {
            usualTown(1);
            call(0, 2, 1);
            tellAll(1);
            if (i == 1) forwards(1, WITHOUT_ANSWER);
            x.tick(299);
            due("299", x.line(1, 1), 5);
            x.tick(1);
            due("300", x.line(1, 1), i == 1 ? 5 : 0);
            due("line 7", x.line(7, 1), i == 1 ? 0 : 5);
            x.tick(i == 1 ? 299 : 599);
            dueState("599 of its line", 0, RINGING);
            x.tick(1);
            dueOver("600", 0, 4);
        }
    }

    static void promise7_toldWhileItIsOtherItIsOtherStill() {
        for (int i = 0; i < 3; i++) {
            lineWithOther();
            tellAll(1);
            if (i == 1) forwards(1, WITHOUT_ANSWER);
            if (i == 2) hang(2);
            else x.tick(299);
            due("299", x.line(1, 3), i == 2 ? 0 : 1);
            x.tick(1);
            due("300", x.line(1, 3), i == 1 ? 1 : 0);
            x.tick(300);
            due("600", x.line(1, 3), 0);
            due("it talks on", x.partner(1), 0);
        }
    }

    static void promise7_barredALineHasWaitingAllTheSame() {
        usualTown(1);
        x.feature(1, HAS_WAITING, true);
        x.feature(1, BARRED, true);
        talk(0, 1);
        call(2, 2, 1);
        due("other", x.line(1, 3), 1);
    }

    static void promise7_whoDoesNotDisturbIsRungAndHasAnOther() {
        // Rung by another call, or with an OTHER: a further call fails by 8, not by 2.
        usualTown(1);
        call(0, 2, 1);
        x.feature(1, NOT_DISTURB, true);
        call(2, 2, 1);
        dueOver("rung", 2, 8);
        lineWithOther();
        x.feature(1, NOT_DISTURB, true);
        call(3, 2, 1);
        dueOver("with an other", 3, 8);
        due("other", x.line(1, 3), 1);
    }

    // ---- 8: forward

    static void promise8_alwaysAlsoWhenBusy() {
        for (int i = 0; i < 2; i++) {
            usualTown(1);
            forwards(1, ALWAYS, 2, 5);
            forwards(1, WHEN_BUSY, 2, 6);
            if (i == 1) lift(1);
            call(0, 2, 1);
            due("line 1", x.line(1, 1), i);
            due("line 5", x.line(5, 1), 5);
            due("line 6", x.line(6, 1), 0);
        }
    }

    static void promise8_alwaysAheadOfWaiting() {
        usualTown(1);
        x.feature(1, HAS_WAITING, true);
        talk(0, 1);
        forwards(1, ALWAYS, 2, 5);
        call(2, 2, 1);
        due("no other", x.line(1, 3), 0);
        due("line 5", x.line(5, 1), 5);
    }

    static void promise8_atMostFiveInAnyZone() {
        // Line i is 2 i, and forwards to the next one; the sixth forward is one too many.
        for (int zone = 0; zone < 4; zone++) {
            for (int first = 1; first <= 2; first++) {
                town(1, 0);
                for (int i = first; i < 8; i++) {
                    row(0, 2, 0, i, zone, 2, i);
                    if (i < 7) forwards(i, ALWAYS, 2, i + 1);
                }
                call(0, 2, first);
                due("state", x.line(0, 2), first == 2 ? RINGING : NONE);
                due("cause", x.line(0, 4), first == 2 ? 0 : 2);
                due("line 7", x.line(7, 1), first == 2 ? 5 : 0);
            }
        }
    }

    static void promise8_withAnOtherTheNextIsForwarded() {
        for (int when = 0; when < 2; when++) {
            lineWithOther();
            forwards(1, when, 2, 5);
            call(3, 2, 1);
            due("line 5", x.line(5, 1), 5);
            due("other", x.line(1, 3), 1);
            dueState("the other's caller", 2, RINGING);
        }
    }

    static void promise8_whenBusyIsAlsoWhenRung() {
        usualTown(1);
        forwards(1, WHEN_BUSY, 2, 5);
        call(0, 2, 1);
        due("rung", x.line(1, 1), 5);
        call(2, 2, 1);
        due("line 5", x.line(5, 1), 5);
        dueState("the first", 0, RINGING);
    }

    static void promise8_awayALineForwardsAllTheSame() {
        for (int when = 0; when < 3; when++) {
            usualTown(1);
            x.member(0, 1);
            call(0, 7);
            x.tick(300);
            due("away", x.line(1, 5), 1);
            forwards(1, when, 2, 5);
            call(2, 2, 1);
            due("line 1", x.line(1, 1), when == ALWAYS ? 0 : 5);
            x.tick(300);
            due("line 5", x.line(5, 1), when == WHEN_BUSY ? 0 : 5);
        }
    }

    /**
     * Line 0 calls line 12 by circuit 0, and is forwarded to these keys, for nobody answers. Then
     * exchange 1, whose ACM went before, makes so many messages.
     */
    private static void forwardedThere(int made, Runnable before, int... keys) {
        usualTown(3);
        before.run();
        forwards(12, WITHOUT_ANSWER, keys);
        call(0, 3, 2, 4);
        x.tick(301);
        due("rung for 299", x.line(12, 1), 5);
        int madeBefore = x.link(1, 0);
        x.tick(1);
        due("rung no more", x.line(12, 1), 0);
        due("messages", x.link(1, 0) - madeBefore, made);
        x.tick(4);
    }

    static void promise8_forwardedByACircuitItRingsOn() {
        forwardedThere(0, NOTHING, 2, 5);
        dueState("line 13", 0, RINGING);
        due("line 13", x.line(13, 1), 5);
        forwardedThere(0, () -> {
            x.feature(13, HAS_WAITING, true);
            talk(8, 5);
        }, 2, 5);
        dueState("other of line 13", 0, RINGING);
        due("other of line 13", x.line(13, 3), 1);
        forwardedThere(0, () -> forwards(13, ALWAYS, 2, 6), 2, 5);
        dueState("line 14, always", 0, RINGING);
        due("line 14", x.line(14, 1), 5);
        forwardedThere(0, () -> {
            lift(13);
            forwards(13, WHEN_BUSY, 2, 6);
        }, 2, 5);
        dueState("line 14, when busy", 0, RINGING);
        due("line 14", x.line(14, 1), 5);
        forwardedThere(0, () -> x.member(0, 13), 7);
        dueState("the group's line 13", 0, RINGING);
        due("line 13", x.line(13, 1), 5);
        x.tick(300);
        due("away", x.line(13, 5), 1);
        due("it waits there", x.group(1, 0, 0), 1);
        forwardedThere(0, () -> x.waiting(1, 0, 1), 7);
        dueState("it waits there", 0, RINGING);
        due("it waits there", x.group(1, 0, 0), 1);
        forwardedThere(1, NOTHING, 3, 2, 5);
        dueState("line 5", 0, RINGING);
        due("line 5", x.line(5, 1), 5);
        hang(0);
        x.tick(4);
        due("REL is on its way", x.line(5, 1), 5);
        x.tick(1);
        due("line 5 no more", x.line(5, 1), 0);
        due("idle ones", x.told(4), 2);
        x.tick(2);
        due("idle ones", x.told(4), 3);
        forwardedThere(1, NOTHING, 8);
        dueState("the room", 0, TALK);
        due("the room", x.room(1, 0), 1);
    }

    static void promise8_forwardedByACircuitItFails() {
        forwardedThere(1, () -> x.feature(13, NOT_DISTURB, true), 2, 5);
        dueOver("it does not disturb", 0, 8);
        forwardedThere(1, () -> lift(13), 2, 5);
        dueOver("busy", 0, 2);
        forwardedThere(1, () -> forwards(13, ALWAYS, 2, 5), 2, 5);
        dueOver("forwarded too often", 0, 2);
        forwardedThere(1, NOTHING, 7);
        dueOver("none may wait", 0, 2);
        forwardedThere(1, NOTHING, 9);
        dueOver("wrong", 0, 1);
        forwardedThere(1, NOTHING, 3, 2);
        dueOver("not whole", 0, 1);
        forwardedThere(1, () -> {
            call(1, 3, 2, 6);
            call(2, 3, 2, 7);
        }, 3, 2, 5);
        dueOver("no circuit", 0, 3);
        forwardedThere(1, () -> {
            for (int l = 8; l < 16; l++) {
                if (l != 12) call(l, 8);
            }
            row(0, 2, 1, 1, 0, 4);
            call(1, 4, 8);
            x.tick(4);
        }, 8);
        due("calls in the room", x.room(1, 0), 8);
        dueOver("it is full", 0, 2);
    }

    static void promise8_withoutAnswerToOneThatRefuses() {
        int[][] to = {{2, 5}, {2, 6}, {9}, {2}, {7}, {3, 2, 4}};
        int[] causes = {8, 2, 1, 1, 2, 3};
        for (int i = 0; i < to.length; i++) {
            usualTown(1);
            x.feature(5, NOT_DISTURB, true);
            lift(6);
            call(7, 3, 2, 0);
            forwards(1, WITHOUT_ANSWER, to[i]);
            call(0, 2, 1);
            x.tick(299);
            due("299", x.line(1, 1), 5);
            x.tick(1);
            due("rung no more", x.line(1, 1), 0);
            dueOver("forwarded to case " + i, 0, causes[i]);
            due("tone", x.line(0, 1), causes[i] == 1 ? 4 : 3);
        }
    }

    static void promise8_ringingAsOtherWhatForwardsIsTheLineNow() {
        // Told while it rings, it holds at 300; and told no more, it does not.
        for (int i = 0; i < 2; i++) {
            lineWithOther();
            forwards(1, WITHOUT_ANSWER, 2, 5);
            x.tick(100);
            if (i == 1) forwards(1, WITHOUT_ANSWER);
            x.tick(200);
            due("other", x.line(1, 3), i);
            due("line 5", x.line(5, 1), i == 0 ? 5 : 0);
        }
    }

    // ---- 12: dial

    /** Line 0 has an ACTIVE in this state, or none. */
    private static void lineInState(int state) {
        usualTown(1);
        x.waiting(0, 0, 1);
        if (state == NONE) call(0, 9);
        if (state == DIALLING) call(0, 2);
        if (state == SENT) {
            x.lose(0, 3);
            call(0, 3, 2, 4);
        }
        if (state == RINGING) call(0, 2, 1);
        if (state == WAITING) call(0, 7);
        if (state == TALK) talk(0, 1);
        dueState("at first", 0, state);
    }

    static void promise12_keysWaitForTheLoopInAllStates() {
        for (int state = NONE; state <= WAITING; state++) {
            lineInState(state);
            x.hook(0, false);
            x.tick(1);
            for (int i = 0; i < 3; i++) x.dial(0, 11);
            x.tick(1);
            due("open: wait", x.line(0, 8), 3);
            x.hook(0, true);
            x.tick(1);
            due("a pulse: wait", x.line(0, 8), 3);
            if (state == SENT) continue;
            x.tick(18);
            due("19 ticks behind it", x.line(0, 8), 3);
            x.tick(1);
            due("the pulses' tick", x.line(0, 8), 3);
            x.tick(1);
            due("the first one", x.line(0, 8), 2);
            x.tick(2);
            due("all", x.line(0, 8), 0);
        }
    }

    // ---- 16: the times of a call that is forwarded begin anew

    static void promise16_forwardedToALineWithWaiting() {
        usualTown(1);
        x.feature(1, HAS_WAITING, true);
        talk(0, 1);
        forwards(2, WITHOUT_ANSWER, 2, 1);
        call(3, 2, 2);
        x.tick(300);
        due("other", x.line(1, 3), 1);
        x.tick(599);
        dueState("599", 3, RINGING);
        x.tick(1);
        dueOver("600", 3, 4);
        due("other", x.line(1, 3), 0);
    }

    static void promise16_forwardedToAGroupItWaits3000() {
        usualTown(1);
        x.waiting(0, 0, 1);
        forwards(1, WITHOUT_ANSWER, 7);
        call(0, 2, 1);
        x.tick(300);
        dueState("waits", 0, WAITING);
        ticksUntil(x.told(0) + 2999);
        dueState("2999", 0, WAITING);
        x.tick(1);
        dueOver("3000", 0, 4);
    }

    static void promise16_forwardedToAGroupAMemberIsAwayAt300() {
        usualTown(1);
        x.member(0, 5);
        forwards(1, WITHOUT_ANSWER, 7);
        call(0, 2, 1);
        x.tick(300);
        due("line 5", x.line(5, 1), 5);
        x.tick(299);
        due("299", x.line(5, 1), 5);
        x.tick(1);
        due("300", x.line(5, 1), 0);
        due("line 5 is away", x.line(5, 5), 1);
        due("line 1 is not", x.line(1, 5), 0);
        dueState("waits", 0, WAITING);
    }

    static void promise16_forwardedFarItIsSentFor500() {
        // Its IAM is lost in tick n and in each fifth one behind it.
        usualTown(1);
        forwards(1, WITHOUT_ANSWER, 3, 2, 4);
        call(0, 2, 1);
        int n = x.told(0) - 1 + 300;
        for (int i = 0; i <= 500; i += 5) x.lose(0, n + i);
        x.tick(300);
        dueState("sent in tick n", 0, SENT);
        x.tick(499);
        dueState("499", 0, SENT);
        x.tick(1);
        dueOver("500", 0, 6);
        due("circuit", x.circuit(0, 0), CLEARING);
    }

    static void promise16_keysThatComeLaterLeaveTimesAlone() {
        // Keys are taken in all states, but only DIALLING has a use for them.
        usualTown(1);
        x.waiting(0, 0, 1);
        call(0, 2, 1);
        int rang = x.told(0) - 1;
        call(3, 7);
        int waited = x.told(0) - 1;
        x.tick(298);
        dialAll(0, 5);
        dialAll(3, 5);
        due("none waits at line 0", x.line(0, 8), 0);
        due("its keys", x.line(0, 7), 2);
        due("none waits at line 3", x.line(3, 8), 0);
        due("its keys", x.line(3, 7), 1);
        ticksUntil(rang + 600);
        dueState("599", 0, RINGING);
        x.tick(1);
        dueOver("600", 0, 4);
        ticksUntil(waited + 3000);
        dueState("2999", 3, WAITING);
        x.tick(1);
        dueOver("3000", 3, 4);
    }

    static void promise16_ringingFarForMoreThan3000() {
        // There it waits for 2000 ticks, rings for 300, and waits again.
        town(1, 0);
        row(0, 1, 1, 0, 0, 7);
        row(1, 1, 3, 0, 0, 7);
        x.waiting(1, 0, 1);
        call(0, 7);
        ticksUntil(2000);
        x.member(0, 9);
        ticksUntil(2400);
        due("line 9 is away", x.line(9, 5), 1);
        ticksUntil(5200);
        dueState("ringing", 0, RINGING);
        due("it waits there", x.group(1, 0, 0), 1);
        lift(9);
        hang(9);
        due("rung", x.line(9, 1), 5);
        lift(9);
        x.tick(4);
        dueState("talk", 0, TALK);
    }

    // ---- 16: away

    static void promise16_awayIsForGroupsAlone() {
        usualTown(1);
        x.member(0, 1);
        x.waiting(0, 0, 1);
        call(0, 7);
        x.tick(300);
        due("away", x.line(1, 5), 1);
        call(2, 2, 1);
        due("rung by another call", x.line(1, 1), 5);
        due("away still", x.line(1, 5), 1);
        dueState("the group's call waits", 0, WAITING);
        lift(1);
        due("talk", x.partner(1), 2);
        due("away no more", x.line(1, 5), 0);
        hang(1);
        due("rung for the group", x.line(1, 1), 5);
        dueState("ringing", 0, RINGING);
    }

    static void promise16_rungNoMoreByItselfIsNotAway() {
        usualTown(1);
        forwards(1, WITHOUT_ANSWER, 2, 5);
        call(0, 2, 1);
        x.tick(300);
        due("forwarded", x.line(1, 5), 0);
        call(2, 2, 6);
        x.tick(600);
        due("over", x.line(6, 5), 0);
    }

    static void promise16_aLineOfTwoGroupsIsAwayFromBoth() {
        usualTown(1);
        row(0, 1, 3, 1, 0, 6);
        x.member(0, 1);
        x.member(1, 1);
        x.waiting(0, 1, 1);
        call(0, 7);
        x.tick(300);
        call(2, 6);
        dueState("waits for group 1", 2, WAITING);
        lift(1);
        hang(1);
        due("rung for group 0", x.partner(0), NONE);
        dueState("ringing", 0, RINGING);
        dueState("waits still", 2, WAITING);
    }

    // ---- 5: since

    static void promise5_hungUpWithoutACallIsFreeAnew() {
        usualTown(1);
        x.member(0, 1);
        x.member(0, 2);
        x.tick(10);
        // Line 1 dials wrongly, is told so, and hangs up.
        call(1, 9);
        dueOver("wrong", 1, 1);
        hang(1);
        call(0, 7);
        due("line 2 was free for longer", x.line(2, 1), 5);
        due("line 1", x.line(1, 1), 0);
    }

    static void promise5_rungNoMoreByAnyCall() {
        // Line 9 is rung by a line, by a circuit, or forwarded; who called hangs up.
        for (int i = 0; i < 3; i++) {
            usualTown(1);
            x.member(0, 9);
            x.member(0, 10);
            forwards(15, ALWAYS, 2, 1);
            x.tick(10);
            int caller = i == 1 ? 0 : 8;
            if (i == 0) call(8, 2, 1);
            if (i == 1) call(0, 3, 2, 1);
            if (i == 2) call(8, 2, 7);
            x.tick(4);
            due("rung", x.line(9, 1), 5);
            hang(caller);
            x.tick(4);
            due("rung no more", x.line(9, 1), 0);
            call(11, 7);
            due("line 10 was free for longer", x.line(10, 1), 5);
        }
    }

    static void promise5_anOtherThatIsOverIsNoMatterOfSince() {
        // Line 1 hung up ahead of line 3, though a call to it as OTHER ended behind that.
        usualTown(1);
        x.member(0, 3);
        x.member(0, 1);
        x.feature(3, HAS_WAITING, true);
        talk(0, 3);
        call(2, 2, 3);
        lift(1);
        hang(1);
        hang(3);
        x.tick(1);
        hang(0);
        call(0, 7);
        due("line 1", x.line(1, 1), 5);
    }

    // ---- 17: what OTHER leaves alone

    static void promise17_otherOverLeavesCauseAndTone() {
        // ACTIVE is over with cause 7, then OTHER: its caller hangs up, or it rang for too long.
        for (int i = 0; i < 2; i++) {
            lineWithOther();
            hang(2);
            due("no cause yet", x.line(1, 4), 0);
            due("talk", x.line(1, 1), 7);
            x.hook(2, true);
            x.tick(1);
            dialAll(2, 2, 1);
            hang(0);
            due("cause of active", x.line(1, 4), 7);
            due("tone", x.line(1, 1), 3);
            due("other", x.line(1, 3), 1);
            if (i == 0) hang(2);
            else x.tick(600);
            due("other over", x.line(1, 3), 0);
            due("cause", x.line(1, 4), 7);
            due("tone", x.line(1, 1), 3);
        }
    }

    static void promise17_anOtherByACircuitIsOver() {
        usualTown(2);
        x.feature(1, HAS_WAITING, true);
        talk(0, 1);
        call(8, 3, 2, 1);
        x.tick(2);
        due("other", x.line(1, 3), 1);
        hang(8);
        x.tick(2);
        due("none", x.line(1, 3), 0);
        due("talk", x.partner(1), 0);
    }

    /** Line 1 has a call of its own, or of another one, as its ACTIVE. */
    private static int talkOfKind(int kind) {
        switch (kind) {
            case 0:
                talk(0, 1);
                return 0;
            case 1:
                call(8, 3, 2, 1);
                x.tick(4);
                lift(1);
                return 8;
            case 2:
                call(1, 3, 2, 4);
                x.tick(4);
                lift(12);
                x.tick(4);
                return 12;
            case 3:
                x.member(0, 1);
                call(0, 7);
                lift(1);
                return 0;
            default:
                talk(1, 0);
                return 0;
        }
    }

    static void promise17_activeIsOverAndOtherStays() {
        // OTHER is by a line or by a circuit, and rings or is on hold.
        for (int i = 0; i < 20; i++) {
            usualTown(4);
            x.feature(1, HAS_WAITING, true);
            int talks = talkOfKind(i % 5);
            int calls = i / 5 % 2 == 0 ? 2 : 15;
            if (calls == 2) call(2, 2, 1);
            else call(15, 3, 2, 1);
            x.tick(4);
            boolean held = i >= 10;
            if (held) {
                flash(1);
                flash(1);
            }
            due("case " + i + ": other", x.line(1, 3), held ? 2 : 1);
            hang(talks);
            x.tick(4);
            dueOver("case " + i, 1, 7);
            due("other", x.line(1, 3), held ? 2 : 1);
            flash(1);
            due("talk", x.line(1, 2), TALK);
            due("partner", x.partner(1) >= 100 ? 15 : x.partner(1), calls);
            due("no other", x.line(1, 3), 0);
        }
    }

    static void promise17_inARoomWithoutCreditAndOtherStays() {
        usualTown(1);
        x.feature(1, HAS_WAITING, true);
        x.tariff(0, 0, 50, 1, 1);
        x.credit(1, 1);
        call(1, 8);
        int begin = x.told(0) - 1;
        call(2, 2, 1);
        due("other", x.line(1, 3), 1);
        ticksUntil(begin + 51);
        dueOver("no credit", 1, 5);
        due("room", x.room(0, 0), 0);
        due("other", x.line(1, 3), 1);
    }

    static void promise17_theCallOnHoldIsOver() {
        lineWithOther();
        flash(1);
        due("line 1 talks to 2", x.partner(1), 2);
        hang(0);
        due("no cause", x.line(1, 4), 0);
        due("other", x.line(1, 3), 0);
        due("talk", x.line(1, 1), 7);
        flash(1);
        due("without other nothing", x.partner(1), 2);
    }

    static void promise17_flashAnswersWithoutCredit() {
        lineWithOther();
        x.tariff(0, 10, 100, 1, 1);
        x.credit(2, 5);
        flash(1);
        dueOver("caller", 2, 5);
        dueOver("line 1", 1, 5);
        due("its other is on hold", x.line(1, 3), 2);
        due("tone", x.line(1, 1), 3);
        flash(1);
        due("talk", x.partner(1), 0);
        due("other", x.line(1, 3), 0);
    }

    // ---- 19, 21: speech

    static void promise19_onHoldInARoomALineGivesNothing() {
        // What line 2 gives is 2 while it is there, for HEARD of 0 is 2; 62 and 2 are heard as 66.
        usualTown(1);
        x.feature(2, HAS_WAITING, true);
        for (int l = 0; l < 3; l++) call(l, 8);
        x.say(1, 62);
        x.tick(1);
        due("three in the room", x.heard(0), 66);
        call(3, 2, 2);
        due("while it rings", x.heard(0), 66);
        flash(2);
        due("line 2 talks to 3", x.partner(2), 3);
        due("in the room", x.room(0, 0), 3);
        due("line 1 alone", x.heard(0), 62);
        due("line 2 hears line 3", x.heard(2), 2);
        flash(2);
        due("back", x.heard(0), 66);
        due("line 2 hears 62 and 2", x.heard(2), 66);
    }

    static void promise21_aTandemCarriesBothWays() {
        // Exchange 1 hands on from circuit 0 to circuit 3, and back, a tick later each.
        town(4, 0);
        row(0, 2, 2, 0, 0, 5);
        row(1, 2, 2, 1, 0, 5);
        row(0, 1, 0, 1, 0, 1);
        call(0, 5, 1);
        x.tick(8);
        lift(1);
        x.tick(8);
        due("partner of 0", x.partner(0), 100);
        due("partner of 1", x.partner(1), 103);
        x.say(0, 1000);
        x.say(1, -3000);
        x.tick(1);
        int from0 = x.speech(0, 0);
        int from1 = x.speech(0, 3);
        due("code of 1000", from0, 154);
        due("code of -3000", from1, 50);
        due("not yet", x.speech(1, 3), 213);
        x.tick(1);
        due("handed on to 1", x.speech(1, 3), from0);
        due("handed on to 0", x.speech(1, 0), from1);
        due("not heard yet", x.heard(1), 2);
        x.tick(1);
        due("heard by 1", x.heard(1), 1008);
        due("heard by 0", x.heard(0), -3008);
    }

    // ---- 26: charges and records

    static void promise26_onHoldIsChargedAllTheSame() {
        // Line 0 talks to 1, which has the call on hold; and line 1 calls 0, and holds that.
        for (int holder = 0; holder < 2; holder++) {
            usualTown(1);
            x.tariff(0, 5, 10, 1, 1);
            x.credit(holder, 1000);
            x.feature(1, HAS_WAITING, true);
            if (holder == 0) talk(0, 1);
            else talk(1, 0);
            int began = x.told(0) - 1;
            call(2, 2, 1);
            flash(1);
            due("on hold", x.line(1, 3), 2);
            ticksUntil(began + 100);
            due("still", x.line(1, 3), 2);
            hang(0);
            due("line", x.record(0, 0), holder);
            due("begin", x.record(0, 2), began);
            due("end", x.record(0, 3), began + 139);
            due("cents", x.record(0, 4), 5 + 1 + 13);
            due("credit", x.line(holder, 6), 1000 - 19);
        }
    }

    static void promise26_withoutCreditOnHold() {
        // Line 1 calls 0, holds that call, and has no credit for it any more.
        usualTown(1);
        x.tariff(0, 5, 100, 1, 1);
        x.credit(1, 6);
        x.feature(1, HAS_WAITING, true);
        talk(1, 0);
        int began = x.told(0) - 1;
        call(2, 2, 1);
        flash(1);
        due("line 1 talks to 2", x.partner(1), 2);
        ticksUntil(began + 100);
        due("on hold", x.line(1, 3), 2);
        x.tick(1);
        due("over", x.line(1, 3), 0);
        dueOver("line 0", 0, 5);
        due("line 1 talks on", x.partner(1), 2);
        due("its cause is another", x.line(1, 4), 0);
        due("cents", x.record(0, 4), 6);
    }

    static void promise26_creditOf0IsEnoughForNothing() {
        // SETUP takes all there is; then each STEP costs nothing.
        usualTown(1);
        x.tariff(0, 7, 10, 0, 0);
        x.credit(0, 7);
        talk(0, 1);
        due("none is left", x.line(0, 6), 0);
        x.tick(100);
        dueState("talk", 0, TALK);
        x.tariff(0, 7, 10, 1, 1);
        x.tick(10);
        dueOver("a cent is too much", 0, 5);
    }

    static void promise26_flashIsNoSecondAnswer() {
        lineWithOther();
        x.tariff(0, 50, 1000, 1, 1);
        int first = x.told(0);
        x.credit(0, 1000);
        x.credit(2, 1000);
        flash(1);
        due("answered", x.line(2, 6), 949);
        int messages = x.link(0, 0);
        for (int i = 0; i < 4; i++) {
            flash(1);
            due("back and forth", x.partner(1), i % 2 == 0 ? 0 : 2);
        }
        due("line 0", x.line(0, 6), 1000);
        due("line 2", x.line(2, 6), 949);
        due("no messages", x.link(0, 0), messages);
        hang(1);
        due("records", x.told(3), 2);
        due("active first", x.record(0, 0), 2);
        due("begin", x.record(0, 2), first + 10);
        due("then other", x.record(1, 0), 0);
    }

    static void promise26_forwardedCallsHaveTheirTimes() {
        usualTown(1);
        forwards(1, WITHOUT_ANSWER, 2, 5);
        call(0, 2, 1);
        x.tick(320);
        lift(5);
        int begin = x.told(0) - 1;
        x.tick(30);
        hang(5);
        due("line", x.record(0, 0), 0);
        due("begin", x.record(0, 2), begin);
        due("end", x.record(0, 3), begin + 70);
    }

    // ---- 20: circuits

    static void promise20_forwardedBackToWhereItCameFrom() {
        usualTown(2);
        forwards(12, ALWAYS, 3, 2, 5);
        call(0, 3, 2, 4);
        x.tick(4);
        due("line 5", x.line(5, 1), 5);
        dueState("sent", 0, SENT);
        x.tick(4);
        dueState("ACM went on", 0, RINGING);
        lift(5);
        x.tick(4);
        dueState("ANM went on", 0, TALK);
    }

    static void promise20_acmAndAnmComeThoughAcmWentBefore() {
        // Exchange 1 rings line 12, and then goes back by another circuit to line 5.
        usualTown(2);
        forwards(12, WITHOUT_ANSWER, 3, 2, 5);
        call(0, 3, 2, 4);
        x.tick(2);
        due("rung", x.line(12, 1), 5);
        x.tick(300);
        due("rung no more", x.line(12, 1), 0);
        due("out", x.circuit(1, 1), OUT);
        x.tick(2);
        due("line 5", x.line(5, 1), 5);
        // It is SENT no more there, so that 500 ticks are nothing to it.
        x.tick(590);
        dueState("ringing", 0, RINGING);
        due("ACM and IAM", x.link(1, 0), 2);
        lift(5);
        x.tick(4);
        due("talk", x.partner(0), 100);
        due("talk", x.partner(5), 101);
        due("ANM", x.link(1, 0), 3);
    }

    // ---- 20: both exchanges take one circuit

    /**
     * Line 8 sends its IAM by the highest circuit in the tick in which the forged one is sent.
     * What is done behind it is done a tick later, ahead of the one in which that comes.
     */
    private static void takeBoth(int circuits, Runnable before, Runnable meanwhile) {
        forge(circuits, () -> {
            before.run();
            call(8, 3, 2);
            x.dial(8, 4);
        }, circuits - 1, IAM, 0, 2, 2, 5);
        meanwhile.run();
        dueState("ahead of it", 8, SENT);
        x.tick(1);
        due("in", x.circuit(1, circuits - 1), IN);
        due("its call rings", x.line(13, 1), 5);
    }

    static void promise20_placedAnewItMayBeBarred() {
        takeBoth(3, NOTHING, () -> x.feature(8, BARRED, true));
        dueOver("barred meanwhile", 8, 8);
        due("the next circuit", x.circuit(1, 1), IDLE);
    }

    static void promise20_placedAnewByTheSameRow() {
        // A longer prefix would lead to line 9.
        takeBoth(3, NOTHING, () -> row(1, 3, 0, 9, 0, 3, 2, 4));
        dueState("sent", 8, SENT);
        due("the next circuit", x.circuit(1, 1), OUT);
        due("line 9", x.line(9, 1), 0);
    }

    static void promise20_placedAnewItIsSentAnew() {
        // Circuit 1 is taken, and circuit 0 in exchange 0 by line 7: that does nothing for the IAM
        // that comes by it. Its own REL in tick 500 is lost.
        takeBoth(3, () -> {
            call(0, 3, 2, 4);
            call(1, 3, 2, 6);
            x.tick(6);
            hang(0);
            x.tick(4);
        }, NOTHING);
        int n = x.told(0) - 3;
        due("circuit 1", x.circuit(1, 1), IN);
        due("circuit 0", x.circuit(1, 0), OUT);
        x.lose(0, n + 500);
        ticksUntil(n + 501);
        dueOver("line 7", 7, 6);
        dueState("500 of the first time", 8, SENT);
        x.tick(1);
        dueState("499", 8, SENT);
        x.tick(1);
        dueOver("500", 8, 6);
        due("circuit 0", x.circuit(1, 0), CLEARING);
    }

    /** Lines 0 and 8 take circuit 1; for exchange 0 circuit 2 is IDLE, for 1 it is CLEARING. */
    private static void takeBothWhileClearing(int reserved, int kind) {
        town(3, reserved);
        for (int e = 0; e < 2; e++) {
            row(e, 2, 2, 1, 0, 3);
            for (int i = 1; i < 3; i++) row(e, 1, 0, 8 * e + i, 0, i);
        }
        row(0, 2, kind, 1, 0, 4);
        call(3, 3, 2);
        call(9, 3, 1);
        x.tick(6);
        due("circuit 0", x.circuit(0, 0), OUT);
        due("circuit 2", x.circuit(0, 2), IN);
        call(0, 4);
        call(8, 3);
        x.hook(9, false);
        x.tick(42);
        due("clearing", x.circuit(1, 2), CLEARING);
        due("idle", x.circuit(0, 2), IDLE);
        x.dial(0, 2);
        x.dial(8, 2);
        x.tick(1);
        due("both took it", x.circuit(0, 1) + x.circuit(1, 1), 2 * OUT);
        x.tick(2);
        due("exchange 0 gave way", x.circuit(0, 1), IN);
    }

    static void promise20_placedAnewItKeepsWhatIsReserved() {
        takeBothWhileClearing(0, 1);
        due("none is reserved", x.circuit(0, 2), OUT);
        dueState("sent", 0, SENT);
        takeBothWhileClearing(1, 1);
        due("one is reserved", x.circuit(0, 2), IDLE);
        dueOver("none to be had", 0, 3);
        takeBothWhileClearing(1, 2);
        due("with rank", x.circuit(0, 2), OUT);
        dueState("sent", 0, SENT);
    }
}
