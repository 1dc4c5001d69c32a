/**
 * The boundary cases of lines and of the times of calls: promises 11, 12, 16, 17 and 18. Each
 * sentence of the document that names one has a method of its own.
 */
public final class LineBoundariesTest extends Bench {
    private static final int DIALLING = 0, SENT = 1, RINGING = 2, TALK = 3, WAITING = 4;

    public static void main(String[] args) throws ReflectiveOperationException {
        runAll(LineBoundariesTest.class);
    }

    private static void dueState(String what, int line, int state) {
        due(what, x.line(line, 2), state);
    }

    private static void dueOver(String what, int line, int cause) {
        due(what + ": state", x.line(line, 2), NONE);
        due(what + ": cause", x.line(line, 4), cause);
        due(what + ": tone", x.line(line, 1), cause == 1 ? 4 : 3);
    }

    // ---- 11: hook and its loop

    /** Line 0 is lifted; the keys 0, 1, 2, 9 are lines 4, 1, 2, 3. */
    private static void pulseTown() {
        town(1, 0);
        int[][] numbers = {{0, 4}, {1, 1}, {2, 2}, {9, 3}};
        for (int[] n : numbers) row(0, 1, 0, n[1], 0, n[0]);
        lift(0);
    }

    /** Line 0 talks with line 1 and has line 2 as its other, which it can flash to. */
    private static void flashTown() {
        usualTown(1);
        x.feature(0, 2, true);
        talk(1, 0);
        call(2, 2, 0);
    }

    static void promise11_lineIs0To15() {
        town(1, 0);
        for (int l : new int[] {MIN, -1, 16, MAX}) due("line " + l, x.hook(l, true), BAD);
        due("line 0", x.hook(0, true), 0);
        due("line 15", x.hook(15, true), 0);
        due("line 0 again", x.hook(0, false), 1);
        due("line 15 again", x.hook(15, false), 1);
    }

    static void promise11_whatIsRefusedClosesNoLoop() {
        town(1, 0);
        x.hook(16, true);
        x.hook(-1, true);
        x.tick(1);
        for (int l = 0; l < 16; l++) due("line " + l, x.line(l, 0), 0);
    }

    static void promise11_onlyATickLooksAtTheLoop() {
        town(1, 0);
        x.hook(0, true);
        due("ahead of the tick", x.line(0, 0), 0);
        x.hook(0, false);
        x.tick(1);
        due("open again in the tick", x.line(0, 0), 0);
        x.hook(0, true);
        x.tick(1);
        due("closed in the tick", x.line(0, 0), 1);
        due("one call was made", x.told(1), 1);
    }

    static void promise11_openFor1TickIsAPulse() {
        pulseTown();
        pulse(0, 1, 20);
        due("key 1", x.line(1, 1), 5);
    }

    static void promise11_openFor9TicksIsAPulse() {
        pulseTown();
        pulse(0, 9, 20);
        due("key 1", x.line(1, 1), 5);
    }

    static void promise11_openFor10TicksIsNoPulse() {
        pulseTown();
        pulse(0, 10, 40);
        dueState("no key came", 0, DIALLING);
        due("no keys", x.line(0, 7), 0);
    }

    static void promise11_openFor9TicksIsNoFlash() {
        flashTown();
        pulse(0, 9, 1);
        due("partner", x.partner(0), 1);
    }

    static void promise11_openFor10TicksIsAFlash() {
        flashTown();
        pulse(0, 10, 1);
        due("partner", x.partner(0), 2);
    }

    static void promise11_openFor39TicksIsAFlash() {
        flashTown();
        pulse(0, 39, 1);
        due("partner", x.partner(0), 2);
        due("lifted", x.line(0, 0), 1);
    }

    static void promise11_openFor40TicksHangsUp() {
        flashTown();
        x.hook(0, false);
        x.tick(39);
        due("39 ticks", x.line(0, 0), 1);
        x.tick(1);
        due("40 ticks", x.line(0, 0), 0);
        dueOver("active", 1, 7);
        dueOver("other", 2, 7);
    }

    static void promise11_openedIs0BehindAPulseAndAFlash() {
        pulseTown();
        pulse(0, 9, 1);
        pulse(0, 9, 20);
        due("two pulses: key 2", x.line(2, 1), 5);
        flashTown();
        pulse(0, 39, 1);
        x.hook(0, false);
        x.tick(39);
        due("39 behind 39", x.line(0, 0), 1);
    }

    static void promise11_openedIs0WhenItIsHungUp() {
        pulseTown();
        hang(0);
        lift(0);
        pulse(0, 1, 20);
        due("a pulse of one tick", x.line(1, 1), 5);
    }

    static void promise11_quietFor20Closes() {
        pulseTown();
        pulse(0, 5, 19);
        due("19", x.line(0, 7), 0);
        x.tick(1);
        due("20", x.line(1, 1), 5);
    }

    static void promise11_aPulseMakesQuiet0() {
        pulseTown();
        pulse(0, 5, 19);
        pulse(0, 5, 19);
        due("19 behind the second one", x.line(0, 7), 0);
        x.tick(1);
        due("20: key 2", x.line(2, 1), 5);
    }

    static void promise11_nineTenAndElevenPulses() {
        int[][] cases = {{9, 3}, {10, 4}};
        for (int[] c : cases) {
            pulseTown();
            for (int i = 0; i < c[0]; i++) pulse(0, 1, 1);
            x.tick(18);
            dueState("quiet for 19", 0, DIALLING);
            x.tick(1);
            due("key of " + c[0], x.line(c[1], 1), 5);
        }
        for (int count : new int[] {11, 12, 20, 21}) {
            pulseTown();
            for (int i = 0; i < count; i++) pulse(0, 1, 1);
            x.tick(60);
            dueState("no key of " + count, 0, DIALLING);
            due("none came", x.line(0, 7), 0);
        }
    }

    static void promise11_elevenPulsesAreGone() {
        pulseTown();
        for (int i = 0; i < 11; i++) pulse(0, 1, 1);
        x.tick(19);
        pulse(0, 1, 20);
        due("one more is key 1", x.line(1, 1), 5);
    }

    static void promise11_aFlashTakesPulsesAway() {
        pulseTown();
        pulse(0, 5, 1);
        pulse(0, 10, 40);
        due("no key", x.line(0, 7), 0);
        pulse(0, 5, 20);
        due("one more is key 1", x.line(1, 1), 5);
    }

    static void promise11_hangingUpTakesPulsesAway() {
        pulseTown();
        pulse(0, 5, 1);
        hang(0);
        lift(0);
        x.tick(40);
        due("no key", x.line(0, 7), 0);
    }

    static void promise11_pulsesWithoutACallAreNothing() {
        usualTown(1);
        call(0, 9);
        pulse(0, 5, 40);
        dueOver("its call is over", 0, 1);
        due("calls", x.told(1), 1);
    }

    // ---- 12: dial

    static void promise12_lineIs0To15() {
        town(1, 0);
        x.hook(0, true);
        x.hook(15, true);
        x.tick(1);
        for (int l : new int[] {MIN, -1, 16, MAX}) due("line " + l, x.dial(l, 1), BAD);
        due("line 0", x.dial(0, 1), 1);
        due("line 15", x.dial(15, 1), 1);
    }

    static void promise12_keysAre0To11() {
        town(1, 0);
        lift(0);
        for (int k : new int[] {MIN, -1, 12, MAX}) due("key " + k, x.dial(0, k), BAD);
        due("key 0", x.dial(0, 0), 1);
        due("key 11", x.dial(0, 11), 2);
    }

    static void promise12_onHookIsBad() {
        town(1, 0);
        due("at first", x.dial(0, 1), BAD);
        x.hook(0, true);
        due("closed, not lifted", x.dial(0, 1), BAD);
        x.tick(1);
        due("lifted", x.dial(0, 1), 1);
        x.hook(0, false);
        x.tick(39);
        due("open, lifted", x.dial(0, 1), 2);
        x.tick(1);
        due("hung up", x.dial(0, 1), BAD);
    }

    static void promise12_twentyWaitTheTwentyFirstIsFull() {
        town(1, 0);
        lift(0);
        for (int i = 1; i <= 20; i++) due("key " + i, x.dial(0, 0), i);
        due("key 21", x.dial(0, 0), FULL);
        x.tick(1);
        due("one came, one more", x.dial(0, 0), 20);
        due("again full", x.dial(0, 0), FULL);
    }

    static void promise12_badAheadOfFull() {
        town(1, 0);
        lift(0);
        for (int i = 1; i <= 20; i++) x.dial(0, 0);
        for (int k : new int[] {-1, 12}) due("key " + k, x.dial(0, k), BAD);
        due("line 1", x.dial(1, 0), BAD);
    }

    static void promise12_whatIsRefusedDoesNotWait() {
        town(1, 0);
        row(0, 3, 0, 1, 0, 5);
        lift(0);
        int[] dialled = {5, 12, 6, -1, 7};
        for (int k : dialled) x.dial(0, k);
        due("three wait", x.line(0, 8), 3);
        x.tick(3);
        due("5 6 7", x.line(1, 1), 5);
        town(1, 0);
        lift(0);
        for (int i = 0; i < 23; i++) x.dial(0, 1);
        due("twenty wait", x.line(0, 8), 20);
        x.tick(20);
        due("none waits", x.line(0, 8), 0);
    }

    static void promise12_oneKeyComesInEachTick() {
        usualTown(1);
        lift(0);
        for (int k : new int[] {2, 1, 5}) x.dial(0, k);
        x.tick(1);
        due("one", x.line(0, 7), 1);
        due("two wait", x.line(0, 8), 2);
        x.tick(1);
        due("two: line 1", x.line(1, 1), 5);
        due("one waits", x.line(0, 8), 1);
        x.tick(1);
        due("the third comes, and is nothing", x.line(0, 7), 2);
        due("none waits", x.line(0, 8), 0);
    }

    static void promise12_noneComesWhileTheLoopIsOpen() {
        usualTown(1);
        lift(0);
        x.dial(0, 2);
        x.hook(0, false);
        x.tick(39);
        due("it waits", x.line(0, 8), 1);
        x.hook(0, true);
        x.tick(1);
        due("closed by a flash: it comes", x.line(0, 7), 1);
        due("none waits", x.line(0, 8), 0);
    }

    static void promise12_noneComesAheadOfPulses() {
        usualTown(1);
        lift(0);
        x.dial(0, 1);
        pulse(0, 9, 1);
        pulse(0, 1, 19);
        due("it waits", x.line(0, 8), 1);
        x.tick(1);
        due("key 2 of the pulses", x.line(0, 7), 1);
        due("it waits", x.line(0, 8), 1);
        x.tick(1);
        due("then it comes: line 1", x.line(1, 1), 5);
    }

    static void promise12_hangingUpAndLiftingLeaveNoneWaiting() {
        usualTown(1);
        lift(0);
        x.hook(0, false);
        for (int i = 0; i < 5; i++) x.dial(0, 2);
        x.tick(40);
        due("hung up", x.line(0, 8), 0);
        lift(0);
        x.tick(3);
        due("lifted", x.line(0, 7), 0);
    }

    // ---- 16: tick

    static void promise16_1To1000Ticks() {
        town(1, 0);
        for (int n : new int[] {MIN, -1, 0, 1001, MAX}) due("tick " + n, x.tick(n), BAD);
        due("now", x.told(0), 0);
        due("tick 1", x.tick(1), 1);
        due("tick 1000", x.tick(1000), 1001);
        due("now", x.told(0), 1001);
    }

    static void promise16_nowIsAtMost10000000() {
        goBeyondWhatIsPromised();
        town(1, 0);
        ticksUntil(9999500);
        due("one too many", x.tick(501), FULL);
        due("by far too many", x.tick(1000), FULL);
        due("bad ahead of full", x.tick(1001), BAD);
        due("bad ahead of full", x.tick(0), BAD);
        due("now", x.told(0), 9999500);
        due("just so many", x.tick(500), 10000000);
        due("one more", x.tick(1), FULL);
        due("now", x.told(0), 10000000);
        due("the latest unit", x.lose(0, 10100000), 1);
    }

    static void promise16_aRefusedTickLooksAtNothing() {
        town(1, 0);
        x.hook(0, true);
        x.tick(0);
        x.tick(1001);
        due("not lifted", x.line(0, 0), 0);
    }

    // ---- 16: the order within a tick

    static void promise16_linesComeInOrder() {
        // Line 3 hangs up in the tick in which lines 2 and 4 call it.
        for (int caller : new int[] {2, 4}) {
            usualTown(1);
            lift(3);
            call(caller, 2);
            x.hook(3, false);
            x.tick(39);
            dialAll(caller, 3);
            due("line 3 called by " + caller, x.line(3, 1), caller == 2 ? 0 : 5);
        }
    }

    static void promise16_rungAndLiftedInOneTick() {
        // Line 5 is lifted in the tick in which line 0 or line 6 comes to its group.
        for (int caller : new int[] {0, 6}) {
            usualTown(1);
            x.waiting(0, 0, 1);
            x.member(0, 5);
            lift(caller);
            x.hook(5, true);
            dialAll(caller, 7);
            due("partner of " + caller, x.partner(caller), caller == 0 ? 5 : NONE);
            dueState("state of " + caller, caller, caller == 0 ? TALK : WAITING);
        }
    }

    static void promise16_linesComeAheadOfTimes() {
        usualTown(1);
        lift(0);
        x.tick(499);
        dialAll(0, 2);
        dueState("a key in the 500th tick", 0, DIALLING);
        x.tick(499);
        dueState("499 behind it", 0, DIALLING);
        x.tick(1);
        dueOver("500 behind it", 0, 1);
    }

    static void promise16_unitsComeAheadOfLines() {
        // ANM comes two ticks behind its going, in the tick in which line 0 hangs up.
        usualTown(1);
        call(0, 3, 2, 4);
        x.tick(6);
        x.hook(0, false);
        x.tick(37);
        x.hook(12, true);
        x.tick(2);
        due("not hung up", x.line(0, 0), 1);
        dueState("not answered", 0, RINGING);
        x.tick(1);
        due("hung up", x.line(0, 0), 0);
        due("but it was in talk", x.told(3), 1);
        due("begin", x.record(0, 2), x.told(0) - 1);
        due("end", x.record(0, 3), x.told(0) - 1);
    }

    static void promise16_timesComeAheadOfGroups() {
        // Line 1, the only member, hangs up in the 2999th or 3000th tick of waiting.
        for (int hungAt = 2999; hungAt <= 3000; hungAt++) {
            usualTown(1);
            x.waiting(0, 0, 1);
            x.member(0, 1);
            lift(1);
            call(0, 7);
            dueState("waits", 0, WAITING);
            ticksUntil(x.told(0) + hungAt - 40);
            hang(1);
            due("line 1 at " + hungAt, x.line(1, 1), hungAt == 2999 ? 5 : 0);
            due("line 0 at " + hungAt, x.line(0, 4), hungAt == 2999 ? 0 : 4);
        }
    }

    static void promise16_callsComeAsTheyWereMade() {
        // Both ring for a group from one tick on; the one made later comes to wait ahead. Another
        // call that is soon over is made ahead of these, between them or behind them.
        for (int i = 0; i < 6; i++) {
            int first = i % 2, overAt = i / 2;
            usualTown(1);
            x.member(0, 4);
            x.member(0, 5);
            if (overAt == 0) lift(6);
            lift(first);
            if (overAt == 1) lift(6);
            lift(1 - first);
            if (overAt == 2) lift(6);
            dialAll(6, 9);
            x.dial(0, 7);
            x.dial(1, 7);
            x.tick(1);
            x.tick(300);
            due("both wait, though none may", x.group(0, 0, 0), 2);
            lift(4);
            hang(4);
            dueState("made later", 1 - first, RINGING);
            dueState("made first", first, WAITING);
        }
    }

    static void promise16_aTickServesAGroupForEachFreeMember() {
        usualTown(1);
        x.waiting(0, 0, 10);
        for (int l = 0; l < 4; l++) call(l, 7);
        due("four wait", x.group(0, 0, 0), 4);
        for (int l = 4; l < 7; l++) x.member(0, l);
        x.tick(1);
        due("three ring", x.group(0, 0, 0), 1);
        for (int l = 0; l < 4; l++) dueState("line " + l, l, l < 3 ? RINGING : WAITING);
        for (int l = 4; l < 7; l++) due("member", x.line(l, 1), 5);
    }

    static void promise16_aTickServesAllEightMembers() {
        town(8, 0);
        row(0, 1, 3, 0, 0, 7);
        row(1, 1, 1, 0, 0, 7);
        x.waiting(0, 0, 10);
        for (int l = 8; l < 16; l++) call(l, 7);
        x.tick(4);
        due("eight wait", x.group(0, 0, 0), 8);
        for (int l = 0; l < 8; l++) x.member(0, l);
        x.tick(1);
        due("none waits", x.group(0, 0, 0), 0);
        for (int l = 0; l < 8; l++) due("line " + l, x.line(l, 1), 5);
    }

    static void promise16_aTickServesEachGroupOfBothExchanges() {
        for (int e = 0; e < 2; e++) {
            for (int g = 0; g < 3; g++) {
                town(1, 0);
                row(e, 1, 3, g, 0, 7);
                x.waiting(e, g, 1);
                call(8 * e, 7);
                dueState("waits", 8 * e, WAITING);
                x.member(g, 8 * e + 7);
                x.tick(1);
                dueState("rings", 8 * e, RINGING);
                due("rung", x.line(8 * e + 7, 1), 5);
            }
        }
    }

    // ---- 16: times

    static void promise16_dialling500() {
        usualTown(1);
        lift(0);
        x.tick(499);
        dueState("499", 0, DIALLING);
        x.tick(1);
        dueOver("500", 0, 1);
    }

    static void promise16_dialling500OfALaterCall() {
        usualTown(1);
        x.tick(100);
        lift(0);
        hang(0);
        for (int l = 0; l < 2; l++) {
            lift(l);
            x.tick(499);
            dueState("499", l, DIALLING);
            x.tick(1);
            dueOver("500", l, 1);
        }
    }

    static void promise16_dialling500BehindTheLatestKey() {
        usualTown(1);
        lift(0);
        x.tick(300);
        dialAll(0, 2);
        x.tick(499);
        dueState("499", 0, DIALLING);
        x.tick(1);
        dueOver("500", 0, 1);
    }

    static void promise16_sent500() {
        usualTown(1);
        // The IAM goes in tick 3 and again in each fifth one behind it; it never comes.
        for (int n = 3; n <= 503; n += 5) x.lose(0, n);
        call(0, 3, 2, 4);
        x.tick(499);
        dueState("499", 0, SENT);
        due("circuit", x.circuit(0, 0), 1);
        x.tick(1);
        dueOver("500", 0, 6);
        due("circuit", x.circuit(0, 0), 3);
    }

    static void promise16_ringing600() {
        usualTown(1);
        call(0, 2, 1);
        x.tick(599);
        dueState("599", 0, RINGING);
        due("rung", x.line(1, 1), 5);
        x.tick(1);
        dueOver("600", 0, 4);
        due("rung no more", x.line(1, 1), 0);
        due("not away", x.line(1, 5), 0);
    }

    static void promise16_answeredInThe600thTick() {
        usualTown(1);
        call(0, 2, 1);
        x.tick(599);
        lift(1);
        dueState("talk", 0, TALK);
    }

    static void promise16_forwardedAt300() {
        usualTown(1);
        keys(2, 2);
        x.forward(1, 2);
        call(0, 2, 1);
        x.tick(299);
        due("299", x.line(1, 1), 5);
        x.tick(1);
        due("300: line 1", x.line(1, 1), 0);
        due("300: line 2", x.line(2, 1), 5);
        // The time of line 2 begins anew.
        x.tick(599);
        dueState("599", 0, RINGING);
        x.tick(1);
        dueOver("600", 0, 4);
    }

    static void promise16_answeredInThe300thTick() {
        usualTown(1);
        keys(2, 2);
        x.forward(1, 2);
        call(0, 2, 1);
        x.tick(299);
        lift(1);
        due("talk", x.partner(0), 1);
        due("line 2", x.line(2, 1), 0);
    }

    static void promise16_toldToForwardBehind300IsTooLate() {
        usualTown(1);
        call(0, 2, 1);
        x.tick(300);
        keys(2, 2);
        x.forward(1, 2);
        x.tick(299);
        due("line 1", x.line(1, 1), 5);
        x.tick(1);
        dueOver("600", 0, 4);
    }

    static void promise16_forwardedAt300ToAllKindsOfPlaces() {
        // To the other exchange, to a room and to a group; line 1 has nothing to do with it then.
        int[][] places = {{3, 2, 4}, {8}, {7}};
        int[] partners = {100, 200, 5};
        for (int i = 0; i < 3; i++) {
            usualTown(1);
            x.member(0, 5);
            keys(places[i]);
            x.forward(1, 2);
            call(0, 2, 1);
            x.tick(300);
            due("rung no more", x.line(1, 1), 0);
            due("keys", x.line(0, 7), places[i].length);
            x.tick(4);
            x.hook(5, true);
            x.hook(12, true);
            x.tick(4);
            due("partner", x.partner(0), partners[i]);
            lift(1);
            due("line 1 has a call of its own", x.line(1, 1), 1);
            hang(1);
            due("talk", x.partner(0), partners[i]);
            due("line 1 hung up", x.line(1, 1), 0);
        }
    }

    static void promise16_forwardedToItselfItRingsAnew() {
        usualTown(1);
        keys(2, 1);
        x.forward(1, 2);
        call(0, 2, 1);
        // Five times at 300 each it is forwarded; the sixth time is one too many.
        x.tick(1000);
        x.tick(799);
        dueState("six times 300 less one", 0, RINGING);
        due("rung", x.line(1, 1), 5);
        x.tick(1);
        dueOver("six times 300", 0, 2);
    }

    static void promise16_anOtherIsForwardedAt300AndOverAt600() {
        for (int forwards = 0; forwards <= 1; forwards++) {
            flashTown();
            if (forwards == 1) {
                keys(2, 4);
                x.forward(0, 2);
            }
            x.tick(299);
            due("299", x.line(0, 3), 1);
            x.tick(1);
            due("300", x.line(0, 3), forwards == 1 ? 0 : 1);
            due("line 4", x.line(4, 1), forwards == 1 ? 5 : 0);
            x.tick(299);
            dueState("599", 2, RINGING);
            x.tick(1);
            due("600", x.line(2, 2), forwards == 1 ? RINGING : NONE);
            due("other", x.line(0, 3), 0);
            due("it talks on", x.partner(0), 1);
        }
    }

    static void promise16_aGroupsMemberIsAwayAt300() {
        usualTown(1);
        x.member(0, 1);
        call(0, 7);
        x.tick(299);
        due("299", x.line(1, 1), 5);
        due("not away", x.line(1, 5), 0);
        x.tick(1);
        due("300", x.line(1, 1), 0);
        due("away", x.line(1, 5), 1);
        dueState("waits", 0, WAITING);
        due("though none may", x.group(0, 0, 0), 1);
    }

    static void promise16_aMemberThatAnswersInThe300thTickIsNotAway() {
        usualTown(1);
        x.member(0, 1);
        call(0, 7);
        x.tick(299);
        lift(1);
        due("talk", x.partner(0), 1);
        due("not away", x.line(1, 5), 0);
    }

    static void promise16_aCallerThatHangsUpInThe300thTickLeavesNobodyAway() {
        usualTown(1);
        x.member(0, 1);
        call(0, 7);
        x.tick(260);
        hang(0);
        due("not away", x.line(1, 5), 0);
        due("waits", x.group(0, 0, 0), 0);
    }

    static void promise16_aGroupsMemberDoesNotForward() {
        usualTown(1);
        x.member(0, 1);
        for (int when = 0; when < 3; when++) {
            keys(2, 2);
            x.forward(1, when);
        }
        call(0, 7);
        due("rung", x.line(1, 1), 5);
        x.tick(300);
        due("line 2", x.line(2, 1), 0);
        dueState("waits", 0, WAITING);
    }

    static void promise16_liftedALineIsAwayNoMore() {
        usualTown(1);
        x.member(0, 1);
        call(0, 7);
        x.tick(300);
        x.tick(500);
        due("away", x.line(1, 5), 1);
        lift(1);
        due("away no more", x.line(1, 5), 0);
        hang(1);
        due("rung", x.line(1, 1), 5);
    }

    static void promise16_waiting3000() {
        usualTown(1);
        x.waiting(0, 0, 1);
        call(0, 7);
        ticksUntil(x.told(0) + 2999);
        dueState("2999", 0, WAITING);
        x.tick(1);
        dueOver("3000", 0, 4);
        due("none waits", x.group(0, 0, 0), 0);
    }

    static void promise16_waitingBeginsAnewBehindRinging() {
        usualTown(1);
        x.waiting(0, 0, 1);
        call(0, 7);
        x.tick(1000);
        x.member(0, 1);
        x.tick(1);
        due("rung", x.line(1, 1), 5);
        x.tick(300);
        dueState("waits again", 0, WAITING);
        ticksUntil(x.told(0) + 2999);
        dueState("2999", 0, WAITING);
        x.tick(1);
        dueOver("3000", 0, 4);
    }

    static void promise16_ringingByACircuitHasNoTime() {
        // It waits for a group there: ACM came, and nothing more for 3000 ticks.
        town(1, 0);
        row(0, 1, 1, 0, 0, 7);
        row(1, 1, 3, 0, 0, 7);
        x.waiting(1, 0, 1);
        call(0, 7);
        ticksUntil(x.told(0) + 3003);
        dueState("ringing", 0, RINGING);
        due("none waits there", x.group(1, 0, 0), 0);
        x.tick(1);
        dueOver("REL came", 0, 4);
    }

    static void promise16_talkIsChargedAboveT0() {
        town(1, 0);
        row(0, 1, 4, 0, 0, 8);
        x.tariff(0, 0, 1, 1, 1);
        x.credit(0, 100);
        call(0, 8);
        due("T 0: the first charge alone", x.line(0, 6), 99);
        for (int t = 1; t <= 5; t++) {
            x.tick(1);
            due("T " + t, x.line(0, 6), 99 - t);
        }
    }

    static void promise16_onlyALineAsSideAIsCharged() {
        usualTown(1);
        x.tariff(0, 10, 1, 1, 1);
        for (int l = 0; l < 2; l++) x.credit(l, 100);
        talk(0, 1);
        x.tick(10);
        due("side A", x.line(0, 6), 100 - 11 - 10);
        due("side B", x.line(1, 6), 100);
    }

    // ---- 17: line

    static void promise17_lineIs0To15() {
        town(1, 0);
        for (int what = 0; what < 9; what++) {
            for (int l : new int[] {MIN, -1, 16, MAX}) due("line " + l, x.line(l, what), BAD);
        }
        due("line 15", x.line(15, 0), 0);
    }

    static void promise17_whatIs0To8() {
        town(1, 0);
        for (int what : new int[] {MIN, -1, 9, MAX}) due("what " + what, x.line(0, what), BAD);
        due("what 0", x.line(0, 0), 0);
        due("what 8", x.line(0, 8), 0);
    }

    static void promise17_soundsOfOneCall() {
        usualTown(1);
        due("on hook", x.line(0, 1), 0);
        lift(0);
        due("dialling without keys", x.line(0, 1), 1);
        dialAll(0, 3);
        due("dialling with keys", x.line(0, 1), 0);
        dialAll(0, 2, 4);
        due("sent", x.line(0, 1), 0);
        x.tick(4);
        due("ringing", x.line(0, 1), 2);
        due("rung", x.line(12, 1), 5);
        lift(12);
        x.tick(2);
        due("talk", x.line(0, 1), 7);
        hang(12);
        x.tick(2);
        due("over", x.line(0, 1), 3);
        hang(0);
        due("on hook", x.line(0, 1), 0);
        call(0, 9);
        due("wrong", x.line(0, 1), 4);
        x.waiting(0, 0, 1);
        call(1, 7);
        due("waiting", x.line(1, 1), 6);
    }

    static void promise17_soundsOfAnOther() {
        flashTown();
        due("other rings", x.line(0, 1), 8);
        flash(0);
        due("other talks", x.line(0, 1), 7);
        hang(2);
        due("active is over", x.line(0, 1), 3);
        due("other", x.line(0, 3), 2);
        flash(0);
        due("talk again", x.line(0, 1), 7);
        due("no other", x.line(0, 3), 0);
    }

    static void promise17_anOtherThatRingsOnWithoutAnActive() {
        flashTown();
        hang(1);
        due("tone, not 8", x.line(0, 1), 3);
        due("other rings", x.line(0, 3), 1);
        call(3, 2, 0);
        dueOver("a third: active is not in talk", 3, 2);
        flash(0);
        due("answered", x.partner(0), 2);
    }

    static void promise17_causeStaysToneGoes() {
        usualTown(1);
        call(0, 9);
        due("tone", x.line(0, 1), 4);
        hang(0);
        due("cause", x.line(0, 4), 1);
        lift(0);
        due("dial tone", x.line(0, 1), 1);
        due("cause", x.line(0, 4), 1);
        dialAll(0, 2, 0);
        due("its own number is busy", x.line(0, 4), 2);
        due("tone", x.line(0, 1), 3);
    }

    static void promise17_oneThatHangsUpIsToldNoCause() {
        usualTown(1);
        talk(0, 1);
        hang(0);
        due("cause of line 0", x.line(0, 4), 0);
        dueOver("line 1", 1, 7);
    }

    static void promise17_hangingUpEndsItsOwnCallThoughThatIsOther() {
        // Line 0 has called line 1, and is called by line 2.
        for (int flashes = 0; flashes <= 1; flashes++) {
            usualTown(1);
            x.feature(0, 2, true);
            talk(0, 1);
            call(2, 2, 0);
            flash(0);
            if (flashes == 1) flash(0);
            due("partner", x.partner(0), 2 - flashes);
            hang(0);
            dueOver("line 1", 1, 7);
            dueOver("line 2", 2, 7);
            due("calls", x.told(2), 0);
            due("records", x.told(3), 2);
            due("the first is active's", x.record(0, 0), flashes == 0 ? 2 : 0);
        }
    }

    static void promise17_hungUpItHasNeitherActiveNorOther() {
        flashTown();
        hang(0);
        int[] want = {0, 0, NONE, 0, 0, 0, NONE, 0, 0};
        for (int what = 0; what < 9; what++) due("what " + what, x.line(0, what), want[what]);
        hang(2);
        for (int what = 0; what < 9; what++) {
            due("what " + what, x.line(2, what), what == 4 ? 7 : want[what]);
        }
        call(3, 2);
        for (int what = 0; what < 9; what++) due("then " + what, x.line(0, what), want[what]);
    }

    static void promise17_flashWithoutOtherIsNothing() {
        usualTown(1);
        talk(0, 1);
        flash(0);
        due("talk", x.partner(0), 1);
        hang(1);
        flash(0);
        due("no active", x.line(0, 2), NONE);
        due("tone", x.line(0, 1), 3);
        hang(0);
        lift(0);
        flash(0);
        dueState("dialling", 0, DIALLING);
    }

    static void promise17_keysOfActive() {
        usualTown(1);
        lift(0);
        due("none", x.line(0, 7), 0);
        dialAll(0, 2);
        due("one", x.line(0, 7), 1);
        dialAll(0, 1);
        lift(1);
        due("side B's active has them too", x.line(1, 7), 2);
        hang(0);
        due("without active", x.line(1, 7), 0);
    }

    static void promise17_keysInOtherStatesAreNothing() {
        usualTown(1);
        call(0, 2, 1);
        dialAll(0, 2, 2);
        dueState("ringing", 0, RINGING);
        due("keys", x.line(0, 7), 2);
        lift(1);
        dialAll(0, 9);
        dialAll(1, 9);
        due("in talk", x.partner(0), 1);
        due("keys", x.line(0, 7), 2);
    }

    static void promise17_creditIsTold() {
        town(1, 0);
        for (int c : new int[] {0, 1000000, NONE}) {
            x.credit(9, c);
            due("credit", x.line(9, 6), c);
        }
    }

    // ---- 18: partner

    static void promise18_lineIs0To15() {
        town(1, 0);
        for (int l : new int[] {MIN, -1, 16, MAX}) due("line " + l, x.partner(l), BAD);
        due("line 0", x.partner(0), NONE);
        due("line 15", x.partner(15), NONE);
    }

    static void promise18_onlyInTalk() {
        usualTown(1);
        lift(0);
        due("dialling", x.partner(0), NONE);
        dialAll(0, 3, 2, 4);
        due("sent", x.partner(0), NONE);
        x.tick(4);
        due("ringing", x.partner(0), NONE);
        due("rung", x.partner(12), NONE);
        lift(12);
        due("in talk there", x.partner(12), 100);
        due("not yet here", x.partner(0), NONE);
        x.tick(2);
        due("in talk here", x.partner(0), 100);
        hang(0);
        due("hung up", x.partner(0), NONE);
        x.tick(2);
        due("over", x.partner(12), NONE);
    }

    static void promise18_theLowestAndTheHighestOfEachKind() {
        town(16, 0);
        row(0, 1, 0, 7, 0, 1);
        row(1, 1, 0, 15, 0, 1);
        row(1, 1, 4, 1, 0, 3);
        row(1, 1, 1, 0, 0, 2);
        row(0, 1, 4, 0, 0, 2);
        call(0, 1);
        lift(7);
        due("line 7", x.partner(0), 7);
        due("line 0", x.partner(7), 0);
        call(8, 1);
        lift(15);
        due("line 15", x.partner(8), 15);
        due("line 8", x.partner(15), 8);
        call(9, 2);
        x.tick(5);
        due("circuit 15", x.partner(9), 115);
        call(1, 2);
        due("room 0", x.partner(1), 200);
        call(10, 3);
        due("room 1", x.partner(10), 201);
    }

    static void promise18_ofActiveNotOfOther() {
        flashTown();
        due("active", x.partner(0), 1);
        flash(0);
        due("the other one", x.partner(0), 2);
        due("held", x.partner(1), 0);
        hang(2);
        due("without active", x.partner(0), NONE);
    }
}
