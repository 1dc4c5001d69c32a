/**
 * The boundary cases of what is told: promises 22, 23, 26 and 27. Each sentence of the document
 * that names one has a method of its own.
 */
public final class ToldBoundariesTest extends Bench {
    public static void main(String[] args) throws ReflectiveOperationException {
        runAll(ToldBoundariesTest.class);
    }

    // ---- 22: group

    static void promise22_exchangeIs0Or1() {
        town(1, 0);
        for (int e : new int[] {MIN, -1, 2, MAX}) due("exchange " + e, x.group(e, 0, 0), BAD);
        due("exchange 0", x.group(0, 0, 0), 0);
        due("exchange 1", x.group(1, 0, 0), 0);
    }

    static void promise22_groupIs0To2() {
        town(1, 0);
        for (int g : new int[] {MIN, -1, 3, MAX}) due("group " + g, x.group(0, g, 0), BAD);
        due("group 0", x.group(0, 0, 1), 0);
        due("group 2", x.group(0, 2, 1), 0);
    }

    static void promise22_whatIs0Or1() {
        town(1, 0);
        for (int what : new int[] {MIN, -1, 2, MAX}) due("what " + what, x.group(0, 0, what), BAD);
        due("what 0", x.group(0, 0, 0), 0);
        due("what 1", x.group(0, 0, 1), 0);
    }

    static void promise22_eachGroupHasItsOwn() {
        town(1, 0);
        for (int g = 0; g < 3; g++) row(0, 1, 3, g, 0, g);
        for (int g = 0; g < 3; g++) x.waiting(0, g, 5);
        x.member(0, 8);
        for (int i = 0; i < 3; i++) x.member(1, i);
        int[] goTo = {0, 2, 2};
        for (int i = 0; i < 3; i++) call(4 + i, goTo[i]);
        int[][] want = {{1, 0}, {0, 3}, {2, 0}};
        for (int g = 0; g < 3; g++) {
            for (int what = 0; what < 2; what++) due("here", x.group(0, g, what), want[g][what]);
            due("waits there", x.group(1, g, 0), 0);
            due("members there", x.group(1, g, 1), g == 0 ? 1 : 0);
        }
    }

    static void promise22_oneThatRingsAMemberDoesNotWait() {
        usualTown(1);
        x.waiting(0, 0, 5);
        x.member(0, 1);
        call(0, 7);
        due("it rings", x.group(0, 0, 0), 0);
        call(2, 7);
        due("the second waits", x.group(0, 0, 0), 1);
        hang(2);
        due("it hung up", x.group(0, 0, 0), 0);
    }

    // ---- 23: room

    static void promise23_exchangeIs0Or1() {
        town(1, 0);
        for (int e : new int[] {MIN, -1, 2, MAX}) due("exchange " + e, x.room(e, 0), BAD);
        due("exchange 0", x.room(0, 0), 0);
        due("exchange 1", x.room(1, 0), 0);
    }

    static void promise23_roomIs0Or1() {
        town(1, 0);
        for (int r : new int[] {MIN, -1, 2, MAX}) due("room " + r, x.room(0, r), BAD);
        due("room 0", x.room(0, 0), 0);
        due("room 1", x.room(0, 1), 0);
    }

    /** 8 is a room of exchange 0, from both exchanges. */
    private static void roomTown(int room) {
        town(4, 0);
        row(0, 1, 4, room, 0, 8);
        row(1, 1, 1, 0, 0, 8);
    }

    static void promise23_eightAreInItTheNinthFails2() {
        for (int room = 0; room < 2; room++) {
            roomTown(room);
            for (int l = 0; l < 8; l++) {
                call(l, 8);
                due("calls in it", x.room(0, room), l + 1);
                due("talk", x.line(l, 2), 3);
            }
            call(8, 8);
            x.tick(4);
            due("the ninth", x.line(8, 4), 2);
            due("calls in it", x.room(0, room), 8);
            due("the other one", x.room(0, 1 - room), 0);
        }
    }

    static void promise23_theNinthMayComeWhenOneHasGone() {
        roomTown(0);
        for (int l = 0; l < 8; l++) call(l, 8);
        hang(3);
        due("seven", x.room(0, 0), 7);
        call(8, 8);
        x.tick(5);
        due("eight", x.room(0, 0), 8);
        due("talk", x.line(8, 2), 3);
        call(3, 8);
        due("nine", x.line(3, 4), 2);
        hang(8);
        x.tick(2);
        due("the one by a circuit has gone", x.room(0, 0), 7);
    }

    static void promise23_oneWithoutCreditIsNotInIt() {
        roomTown(0);
        x.tariff(0, 10, 5, 1, 1);
        x.credit(0, 10);
        call(0, 8);
        due("below the first charge", x.room(0, 0), 0);
        due("cause", x.line(0, 4), 5);
        hang(0);
        x.credit(0, 11);
        call(0, 8);
        due("just enough", x.room(0, 0), 1);
        x.tick(5);
        due("not for the next", x.room(0, 0), 0);
    }

    // ---- 26: record

    private static void recordTown() {
        usualTown(1);
        x.tariff(0, 3, 10, 2, 1);
        talk(0, 1);
        x.tick(20);
        hang(1);
    }

    static void promise26_whatIs0To4() {
        recordTown();
        for (int what : new int[] {MIN, -1, 5, MAX}) due("what " + what, x.record(0, what), BAD);
        // In tick 63 line 1 hangs up ahead of the charge at T 60.
        int[] want = {0, 0, 3, 63, 3 + 1 + 5};
        for (int what = 0; what < 5; what++) due("what " + what, x.record(0, what), want[what]);
    }

    static void promise26_badAheadOfNone() {
        town(1, 0);
        for (int i : new int[] {MIN, -1, 0, MAX}) {
            due("what -1", x.record(i, -1), BAD);
            due("what 5", x.record(i, 5), BAD);
            due("what 0", x.record(i, 0), NONE);
            due("what 4", x.record(i, 4), NONE);
        }
    }

    static void promise26_from0ToTheLatest() {
        recordTown();
        for (int i : new int[] {MIN, -1, 1, 2, 300, MAX}) due("i " + i, x.record(i, 0), NONE);
        due("i 0", x.record(0, 0), 0);
        hang(0);
        talk(2, 3);
        hang(2);
        due("i 1", x.record(1, 0), 2);
        due("i 2", x.record(2, 0), NONE);
    }

    static void promise26_theLatest300AreKept() {
        // Each takes some calls: the 301st is far behind the 512th.
        goBeyondWhatIsPromised();
        town(1, 0);
        row(0, 1, 4, 0, 0, 8);
        for (int i = 0; i < 300; i++) {
            call(i % 8, 8);
            hang(i % 8);
        }
        due("of 300 the first", x.record(0, 0), 0);
        due("of 300 the latest", x.record(299, 0), 299 % 8);
        due("not made yet", x.record(300, 0), NONE);
        call(7, 8);
        hang(7);
        due("of 301 the first", x.record(0, 0), NONE);
        due("of 301 the second", x.record(1, 0), 1);
        due("of 301 the latest", x.record(300, 0), 7);
        due("made", x.told(3), 301);
    }

    static void promise26_noneWithoutTalk() {
        usualTown(1);
        x.waiting(0, 0, 1);
        lift(0);
        hang(0);
        call(0, 9);
        hang(0);
        call(0, 2, 1);
        hang(0);
        call(0, 7);
        hang(0);
        call(0, 3, 2, 4);
        hang(0);
        x.tick(10);
        due("records", x.told(3), 0);
    }

    static void promise26_noneOfACircuit() {
        usualTown(1);
        call(0, 3, 2, 4);
        x.tick(4);
        lift(12);
        x.tick(2);
        hang(12);
        due("none there", x.told(3), 0);
        x.tick(2);
        due("one here", x.told(3), 1);
        due("of line 0", x.record(0, 0), 0);
        due("in the zone of its row", x.record(0, 1), 1);
    }

    static void promise26_withoutCreditItEndsAsItBegins() {
        usualTown(1);
        x.tariff(0, 5, 10, 0, 0);
        x.credit(0, 4);
        talk(0, 1);
        due("records", x.told(3), 1);
        due("begin", x.record(0, 2), 3);
        due("end", x.record(0, 3), 3);
        due("cents", x.record(0, 4), 0);
    }

    static void promise26_eachHasItsOwnCents() {
        usualTown(1);
        x.tariff(0, 5, 1000, 0, 1);
        for (int i = 0; i < 3; i++) {
            talk(0, 1);
            hang(0);
            hang(1);
            due("cents", x.record(i, 4), 6);
        }
    }

    static void promise26_callsThatAreOverLeaveNothingToLaterOnes() {
        // Lines 12 and 13 talk for money; then calls by circuits come to their exchange.
        usualTown(1);
        x.tariff(0, 5, 10, 1, 1);
        x.credit(12, 1000);
        talk(12, 5);
        hang(12);
        hang(13);
        due("one record", x.told(3), 1);
        int credit = x.line(12, 6);
        call(0, 3, 2, 6);
        x.tick(4);
        lift(14);
        x.tick(20);
        due("line 14's partner", x.partner(14), 100);
        due("line 0's partner", x.partner(0), 100);
        due("line 12 is not charged", x.line(12, 6), credit);
        due("line 12 hears nothing", x.heard(12), 0);
        hang(0);
        x.tick(2);
        due("one record more, of line 0", x.told(3), 2);
        due("it is of line 0", x.record(1, 0), 0);
        // And the other way round: a line's call behind one that came by a circuit.
        hang(14);
        x.tick(4);
        call(14, 3, 2, 1);
        x.tick(4);
        lift(1);
        x.tick(4);
        due("line 14's partner", x.partner(14), 100);
        due("line 1's partner", x.partner(1), 100);
    }

    static void promise26_theZoneOfTheFirstRow() {
        // 2 1 is in zone 0, and forwards to 6 in zone 3.
        usualTown(1);
        row(0, 1, 0, 2, 3, 6);
        keys(6);
        x.forward(1, 0);
        x.tariff(3, 100, 1, 100, 100);
        call(0, 2, 1);
        lift(2);
        hang(2);
        due("zone", x.record(0, 1), 0);
        due("cents", x.record(0, 4), 0);
        call(3, 6);
        hang(0);
        lift(2);
        hang(2);
        due("zone", x.record(1, 1), 3);
        due("cents", x.record(1, 4), 200 + 39 * 100);
    }

    // ---- 27: told

    static void promise27_whatIs0To4() {
        town(3, 0);
        for (int what : new int[] {MIN, -1, 5, MAX}) due("what " + what, x.told(what), BAD);
        int[] want = {0, 0, 0, 0, 3};
        for (int what = 0; what < 5; what++) due("what " + what, x.told(what), want[what]);
    }

    static void promise27_callsOfBothExchanges() {
        town(2, 0);
        for (int l = 0; l < 16; l++) {
            lift(l);
            due("made", x.told(1), l + 1);
            due("not over", x.told(2), l + 1);
        }
        for (int l = 0; l < 16; l++) x.hook(l, false);
        x.tick(39);
        due("not over", x.told(2), 16);
        x.tick(1);
        due("all over", x.told(2), 0);
        due("made", x.told(1), 16);
    }

    static void promise27_idleAtBothEnds() {
        usualTown(2);
        call(0, 3, 2, 4);
        due("out here, idle there", x.told(4), 1);
        x.tick(2);
        due("out here, in there", x.told(4), 1);
        hang(0);
        due("clearing here, in there", x.told(4), 1);
        x.tick(2);
        due("clearing here, idle there", x.told(4), 1);
        x.tick(2);
        due("idle", x.told(4), 2);
        call(8, 3, 2, 4);
        due("idle here, out there", x.told(4), 1);
        x.tick(2);
        due("in here, out there", x.told(4), 1);
        hang(8);
        x.tick(2);
        due("idle here, clearing there", x.told(4), 1);
        x.tick(2);
        due("idle", x.told(4), 2);
    }

    static void promise27_asManyCallsAsCircuitsAndLines() {
        // 9 leads to the other exchange and there back: a call for each circuit.
        town(16, 0);
        for (int e = 0; e < 2; e++) row(e, 1, 2, 0, 0, 9);
        for (int l = 0; l < 16; l++) x.hook(l, true);
        x.tick(1);
        dialAll(0, 9);
        x.tick(31);
        due("fifteen circuits have one", x.told(1), 31);
        due("all live", x.told(2), 31);
        x.tick(1);
        due("the sixteenth is made", x.told(1), 32);
        due("and fails, for no circuit is idle", x.told(2), 31);
        due("idle circuits", x.told(4), 0);
        x.tick(100);
        due("only those of fifteen lines live", x.told(2), 15);
        due("idle circuits", x.told(4), 16);
        due("cause", x.line(0, 4), 3);
    }
}
