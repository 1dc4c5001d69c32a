/**
 * The boundary cases of what is set: promises 1 to 10 and 13. Each sentence of the document that
 * names one has a method of its own.
 */
public final class SettingBoundariesTest extends Bench {
    public static void main(String[] args) throws ReflectiveOperationException {
        runAll(SettingBoundariesTest.class);
    }

    /** A call of which one number is open. */
    private interface OneNumber {
        int ask(int v);
    }

    /** The numbers just outside of low .. high are BAD, and so are those farthest from it. */
    private static void dueOutside(String what, OneNumber call, int low, int high) {
        for (int v : new int[] {MIN, low - 1, high + 1, MAX}) {
            due(what + " " + v, call.ask(v), BAD);
        }
    }

    // ---- 1: a new object

    /**
     * 1 and 2 lead from exchange 0 to the other one without and with rank, 3 and 4 from
     * exchange 1; there these keys lead to a room, so that the circuit stays taken.
     */
    private static void farTown(int circuits, int reserved) {
        town(circuits, reserved);
        for (int e = 0; e < 2; e++) {
            row(e, 1, 1, 0, 0, 1 + 2 * e);
            row(e, 1, 2, 0, 0, 2 + 2 * e);
            row(1 - e, 1, 4, 0, 0, 1 + 2 * e);
            row(1 - e, 1, 4, 0, 0, 2 + 2 * e);
        }
    }

    /** The line calls by the key: 0 if the call is SENT, else its CAUSE. */
    private static int goesOut(int line, int key) {
        call(line, key);
        return x.line(line, 2) == 1 ? 0 : x.line(line, 4);
    }

    static void promise1_circuitsBelow1Are1() {
        for (int c : new int[] {1, 0, -1, MIN}) {
            town(c, 0);
            due("circuit 0 of " + c, x.circuit(0, 0), 0);
            due("circuit 1 of " + c, x.circuit(0, 1), BAD);
            due("idle ones of " + c, x.told(4), 1);
        }
    }

    static void promise1_circuitsAbove16Are16() {
        for (int c : new int[] {16, 17, MAX}) {
            town(c, 0);
            due("circuit 15 of " + c, x.circuit(1, 15), 0);
            due("circuit 16 of " + c, x.circuit(1, 16), BAD);
            due("idle ones of " + c, x.told(4), 16);
        }
    }

    static void promise1_between1And16TheyAreAsTold() {
        for (int c = 1; c <= 16; c++) {
            town(c, 0);
            due("idle ones", x.told(4), c);
            due("the last one", x.circuit(0, c - 1), 0);
            due("behind it", x.circuit(0, c), BAD);
        }
    }

    static void promise1_reservedBelow0Is0() {
        for (int r : new int[] {0, -1, MIN}) {
            farTown(1, r);
            due("the only circuit is free to all, reserved " + r, goesOut(0, 1), 0);
        }
    }

    static void promise1_reservedAboveCIsC() {
        int[][] towns = {{1, 1}, {1, 2}, {3, 3}, {3, 4}, {3, MAX}, {0, 1}, {99, 16}, {99, 99}};
        for (int[] t : towns) {
            farTown(t[0], t[1]);
            due("all are reserved", goesOut(0, 1), 3);
            due("with rank", goesOut(1, 2), 0);
        }
        int[][] oneLess = {{3, 2}, {99, 15}};
        for (int[] t : oneLess) {
            farTown(t[0], t[1]);
            due("one is free", goesOut(0, 1), 0);
            due("no other", goesOut(1, 1), 3);
        }
    }

    static void promise1_reservedInBothExchanges() {
        for (int e = 0; e < 2; e++) {
            farTown(2, 1);
            due("two are idle", goesOut(8 * e, 1 + 2 * e), 0);
            due("one is idle", goesOut(8 * e + 1, 1 + 2 * e), 3);
        }
    }

    static void promise1_noRows() {
        town(1, 0);
        for (int e = 0; e < 2; e++) {
            call(8 * e, 5);
            due("a key is wrong", x.line(8 * e, 4), 1);
            due("the first row", row(e, 1, 4, 0, 0, 5), 0);
        }
    }

    static void promise1_noMembersAndNobodyMayWait() {
        town(1, 0);
        for (int e = 0; e < 2; e++) {
            for (int g = 0; g < 3; g++) {
                due("members", x.group(e, g, 1), 0);
                due("calls that wait", x.group(e, g, 0), 0);
                due("that may", x.waiting(e, g, 0), 0);
            }
        }
    }

    static void promise1_noFeaturesNoCreditLoopsOpen() {
        town(1, 0);
        for (int l = 0; l < 16; l++) {
            for (int what = 0; what < 3; what++) due("feature", x.feature(l, what, false), 0);
            due("told credit", x.line(l, 6), NONE);
            due("credit", x.credit(l, NONE), NONE);
            due("loop", x.hook(l, false), 0);
        }
    }

    static void promise1_linesAtFirst() {
        town(1, 0);
        int[] want = {0, 0, NONE, 0, 0, 0, NONE, 0, 0};
        for (int l = 0; l < 16; l++) {
            for (int what = 0; what < 9; what++) due("what " + what, x.line(l, what), want[what]);
            due("says", x.say(l, 0), 0);
        }
    }

    static void promise1_linesForwardNowhere() {
        usualTown(1);
        call(0, 2, 1);
        due("not always", x.line(1, 1), 5);
        x.tick(300);
        due("not without answer", x.line(1, 1), 5);
        call(2, 2, 1);
        due("not when busy", x.line(2, 4), 2);
    }

    // ---- 2, 3: the keys

    static void promise2_keysAre0To11() {
        town(1, 0);
        dueOutside("key", k -> x.key(k), 0, 11);
        due("key 0", x.key(0), 1);
        due("key 11", x.key(11), 2);
    }

    static void promise2_twelveAreHeldTheThirteenthIsFull() {
        town(1, 0);
        for (int i = 1; i <= 12; i++) due("key " + i, x.key(11), i);
        due("key 13", x.key(11), FULL);
        due("once more", x.key(0), FULL);
    }

    static void promise2_badAheadOfFull() {
        town(1, 0);
        for (int i = 1; i <= 12; i++) x.key(0);
        dueOutside("key", k -> x.key(k), 0, 11);
    }

    static void promise2_aBadKeyChangesNothing() {
        town(1, 0);
        keys(2, -1, 12, 1, MAX);
        due("the row has two keys", x.plan(0, 2, 0, 1, 0), 0);
        call(0, 2, 1);
        due("these two", x.line(1, 1), 5);
    }

    static void promise2_aKeyThatIsTooManyChangesNothing() {
        town(1, 0);
        keys(0, 1, 2, 3, 4, 5, 6, 7, 8, 9, 10, 11, 5, 6);
        due("the row has twelve keys", x.plan(0, 12, 0, 1, 0), 0);
        call(0, 0, 1, 2, 3, 4, 5, 6, 7, 8, 9, 10, 11);
        due("the first twelve", x.line(1, 1), 5);
    }

    static void promise3_withoutKeysItIs0() {
        town(1, 0);
        due("at first", x.keyless(), 0);
        due("again", x.keyless(), 0);
    }

    static void promise3_oneToTwelveAreGone() {
        town(1, 0);
        for (int count = 1; count <= 12; count++) {
            for (int i = 0; i < count; i++) x.key(i);
            due("there were", x.keyless(), count);
            due("there are", x.keyless(), 0);
        }
        due("the first one anew", x.key(3), 1);
        due("row of it", x.plan(0, 1, 0, 1, 0), 0);
        call(0, 3);
        due("it alone", x.line(1, 1), 5);
    }

    // ---- 4: plan

    private static int prefixes = 0;

    /** A row with a new prefix of two keys: 1 if it is taken, else what is answered. */
    private static int freshRow(int exchange, int length, int kind, int arg, int zone) {
        x.keyless();
        prefixes = (prefixes + 1) % 144;
        int got = row(exchange, length, kind, arg, zone, prefixes / 12, prefixes % 12);
        return got >= 0 ? 1 : got;
    }

    static void promise4_exchangeIs0Or1() {
        town(1, 0);
        dueOutside("exchange", e -> freshRow(e, 2, 4, 0, 0), 0, 1);
        due("exchange 0", freshRow(0, 2, 4, 0, 0), 1);
        due("exchange 1", freshRow(1, 2, 4, 0, 0), 1);
    }

    static void promise4_lengthIsFromTheKeysTo12() {
        town(1, 0);
        dueOutside("length", n -> freshRow(0, n, 4, 0, 0), 2, 12);
        due("length 0", freshRow(0, 0, 4, 0, 0), BAD);
        for (int n = 2; n <= 12; n++) due("length " + n, freshRow(0, n, 4, 0, 0), 1);
        keys(0, 0, 0, 0, 0, 0, 0, 0, 0, 0, 0, 0);
        due("eleven of twelve keys", x.plan(0, 11, 4, 0, 0), BAD);
        due("thirteen of twelve keys", x.plan(0, 13, 4, 0, 0), BAD);
        due("twelve of twelve keys", x.plan(0, 12, 4, 0, 0), 11);
    }

    static void promise4_kindIs0To4() {
        town(1, 0);
        dueOutside("kind", kind -> freshRow(0, 2, kind, 0, 0), 0, 4);
        for (int kind = 0; kind <= 4; kind++) due("kind " + kind, freshRow(0, 2, kind, 0, 0), 1);
    }

    static void promise4_aLineIsOneOfThatExchange() {
        town(1, 0);
        for (int e = 0; e < 2; e++) {
            int exchange = e;
            dueOutside("line", l -> freshRow(exchange, 2, 0, l, 0), 8 * e, 8 * e + 7);
            for (int l = 8 * e; l < 8 * e + 8; l++) due("line", freshRow(e, 2, 0, l, 0), 1);
        }
    }

    static void promise4_farIsWithout0ToLengthKeys() {
        town(1, 0);
        for (int kind = 1; kind <= 2; kind++) {
            int k = kind;
            dueOutside("of two keys", n -> freshRow(0, 2, k, n, 0), 0, 2);
            dueOutside("of twelve keys", n -> freshRow(0, 12, k, n, 0), 0, 12);
            due("0 of two", freshRow(0, 2, kind, 0, 0), 1);
            due("2 of two", freshRow(0, 2, kind, 2, 0), 1);
            due("12 of twelve", freshRow(0, 12, kind, 12, 0), 1);
        }
    }

    static void promise4_groupIs0To2() {
        town(1, 0);
        dueOutside("group", g -> freshRow(0, 2, 3, g, 0), 0, 2);
        for (int g = 0; g <= 2; g++) due("group " + g, freshRow(0, 2, 3, g, 0), 1);
    }

    static void promise4_roomIs0Or1() {
        town(1, 0);
        dueOutside("room", r -> freshRow(0, 2, 4, r, 0), 0, 1);
        for (int r = 0; r <= 1; r++) due("room " + r, freshRow(0, 2, 4, r, 0), 1);
    }

    static void promise4_zoneIs0To3() {
        town(1, 0);
        dueOutside("zone", z -> freshRow(0, 2, 4, 0, z), 0, 3);
        for (int z = 0; z <= 3; z++) due("zone " + z, freshRow(0, 2, 4, 0, z), 1);
    }

    static void promise4_withoutKeysIsBad() {
        town(1, 0);
        due("length 1", x.plan(0, 1, 4, 0, 0), BAD);
        due("length 0", x.plan(0, 0, 4, 0, 0), BAD);
        due("length 12", x.plan(0, 12, 1, 0, 0), BAD);
    }

    static void promise4_aPrefixThatIsThereIsBad() {
        town(1, 0);
        due("0 0", row(0, 2, 4, 0, 0, 0, 0), 0);
        due("0 0 again, in all else another row", row(0, 3, 3, 1, 1, 0, 0), BAD);
        due("in the other exchange", x.plan(1, 3, 3, 1, 1), 0);
        due("one key more", row(0, 3, 4, 0, 0, 0, 0, 0), 1);
        due("one key fewer", row(0, 1, 4, 0, 0, 0), 2);
        due("another last key", row(0, 2, 4, 0, 0, 0, 1), 3);
        due("another first key", row(0, 2, 4, 0, 0, 1, 0), 4);
    }

    static void promise4_24RowsAreHeldThe25thIsFull() {
        town(1, 0);
        for (int e = 0; e < 2; e++) {
            for (int i = 0; i < 24; i++) due("row", row(e, 2, 4, 0, 0, i / 12, i % 12), i);
            due("row 24", row(e, 2, 4, 0, 0, 5, 5), FULL);
            x.keyless();
        }
    }

    static void promise4_badAheadOfFull() {
        town(1, 0);
        for (int i = 0; i < 24; i++) row(0, 2, 4, 0, 0, i / 12, i % 12);
        due("without keys", x.plan(0, 2, 4, 0, 0), BAD);
        due("a prefix that is there", row(0, 2, 4, 0, 0, 0, 7), BAD);
        x.keyless();
        keys(9, 9);
        due("exchange", x.plan(2, 2, 4, 0, 0), BAD);
        due("length", x.plan(0, 1, 4, 0, 0), BAD);
        due("kind", x.plan(0, 2, 5, 0, 0), BAD);
        due("arg", x.plan(0, 2, 4, 2, 0), BAD);
        due("zone", x.plan(0, 2, 4, 0, 4), BAD);
        due("none of these", x.plan(0, 2, 4, 0, 0), FULL);
    }

    static void promise4_theKeysAreGoneThen() {
        town(1, 0);
        row(0, 2, 4, 0, 0, 1, 2);
        due("keys", x.keyless(), 0);
    }

    static void promise4_theKeysStayWhenItIsRefused() {
        town(1, 0);
        for (int i = 0; i < 24; i++) row(0, 2, 0, 2, 0, i / 12, i % 12);
        keys(9, 8);
        x.plan(0, 1, 0, 1, 0);
        x.plan(0, 2, 0, 1, 0);
        due("of a bad and of a full call", x.plan(1, 2, 0, 9, 0), 0);
        call(8, 9, 8);
        due("the same keys", x.line(9, 1), 5);
    }

    static void promise4_aRefusedRowIsNotThere() {
        town(1, 0);
        row(0, 1, 0, 1, 4, 5);
        x.keyless();
        row(0, 2, 0, 1, 0, 5, 1);
        row(0, 3, 0, 2, 0, 5, 1);
        x.keyless();
        call(0, 5);
        due("5 is not whole", x.line(0, 2), 0);
        dialAll(0, 1);
        due("5 1 has its first row", x.line(1, 1), 5);
        town(1, 0);
        for (int i = 0; i < 24; i++) row(0, 2, 0, 2, 0, i / 12, i % 12);
        row(0, 1, 0, 1, 0, 9);
        call(0, 9);
        due("the 25th row", x.line(0, 4), 1);
    }

    // ---- 4: analysis

    private static void dueState(String what, int line, int state, int cause) {
        due(what + ": state", x.line(line, 2), state);
        due(what + ": cause", x.line(line, 4), cause);
    }

    static void promise4_theBeginningOfALongerPrefixIsMore() {
        town(1, 0);
        row(0, 1, 0, 1, 0, 6);
        row(0, 3, 0, 2, 0, 6, 6, 6);
        call(0, 6);
        dueState("6 is whole by a row, but begins 6 6 6", 0, 0, 0);
        dialAll(0, 6);
        dueState("6 6 too", 0, 0, 0);
        dialAll(0, 6);
        due("6 6 6 is whole", x.line(2, 1), 5);
    }

    static void promise4_theLongestPrefixCounts() {
        town(1, 0);
        row(0, 3, 0, 1, 0, 6, 6, 6);
        row(0, 3, 0, 2, 0, 6);
        row(0, 3, 0, 3, 0, 6, 6);
        int[][] numbers = {{6, 6, 6, 1}, {6, 6, 1, 3}, {6, 1, 6, 2}};
        for (int[] n : numbers) {
            call(0, n[0], n[1], n[2]);
            due("line " + n[3], x.line(n[3], 1), 5);
            hang(0);
        }
    }

    static void promise4_noRowIsWrong() {
        town(1, 0);
        row(0, 3, 0, 1, 0, 6, 6, 6);
        call(0, 5);
        dueState("5", 0, NONE, 1);
        hang(0);
        call(0, 6, 6, 5);
        dueState("6 6 5", 0, NONE, 1);
    }

    static void promise4_lengthAboveTheKeysIsMore() {
        town(1, 0);
        row(0, 12, 0, 1, 0, 6);
        call(0, 6, 1, 2, 3, 4, 5, 6, 7, 8, 9, 10);
        dueState("eleven keys", 0, 0, 0);
        due("there are eleven", x.line(0, 7), 11);
        dialAll(0, 11);
        due("twelve are whole", x.line(1, 1), 5);
    }

    static void promise4_lengthBelowTheKeysIsWrong() {
        town(1, 0);
        row(0, 1, 0, 1, 0, 6);
        row(0, 3, 0, 2, 0, 6, 6, 6);
        call(0, 6, 1);
        dueState("6 1 begins with 6, whose length is 1", 0, NONE, 1);
        hang(0);
        call(0, 6, 6, 1);
        dueState("6 6 1 likewise", 0, NONE, 1);
    }

    static void promise4_aPrefixOfTwelveKeys() {
        town(1, 0);
        row(0, 12, 0, 1, 0, 1, 1, 1, 1, 1, 1, 1, 1, 1, 1, 1, 1);
        call(0, 1, 1, 1, 1, 1, 1, 1, 1, 1, 1, 1);
        dueState("eleven of them", 0, 0, 0);
        dialAll(0, 1);
        due("all", x.line(1, 1), 5);
        hang(0);
        call(0, 1, 1, 1, 1, 1, 1, 1, 1, 1, 1, 1, 0);
        dueState("another last one", 0, NONE, 1);
    }

    static void promise4_farGoesWithoutTheFirstKeys() {
        // 9 1 2 goes without 0, 2 and 3 keys: 9 1 2 is line 9, 2 is line 10, without keys: wrong.
        int[][] cases = {{0, 9}, {2, 10}, {3, NONE}};
        for (int[] c : cases) {
            town(1, 0);
            row(0, 3, 1, c[0], 0, 9);
            row(1, 3, 0, 9, 0, 9, 1);
            row(1, 1, 0, 10, 0, 2);
            call(0, 9, 1, 2);
            x.tick(4);
            for (int l = 8; l < 16; l++) due("line " + l, x.line(l, 1), l == c[1] ? 5 : 0);
            due("cause", x.line(0, 4), c[1] == NONE ? 1 : 0);
        }
    }

    // ---- 5: member

    static void promise5_groupIs0To2() {
        town(1, 0);
        dueOutside("group", g -> x.member(g, 0), 0, 2);
        for (int g = 0; g <= 2; g++) due("group " + g, x.member(g, 0), 1);
    }

    static void promise5_lineIs0To15() {
        town(1, 0);
        dueOutside("line", l -> x.member(0, l), 0, 15);
        for (int l = 0; l <= 15; l++) due("line " + l, x.member(0, l), l % 8 + 1);
    }

    static void promise5_aGroupOfItsExchange() {
        town(1, 0);
        due("line 7", x.member(0, 7), 1);
        due("line 8", x.member(0, 8), 1);
        due("members here", x.group(0, 0, 1), 1);
        due("members there", x.group(1, 0, 1), 1);
    }

    static void promise5_aMemberAgainIsBad() {
        town(1, 0);
        for (int l = 0; l < 8; l++) x.member(2, l);
        for (int l = 0; l < 8; l++) due("line " + l, x.member(2, l), BAD);
        due("eight members", x.group(0, 2, 1), 8);
        due("of another group", x.member(1, 3), 1);
    }

    static void promise5_whatIsRefusedMakesNoMember() {
        town(1, 0);
        x.member(0, 3);
        x.member(0, 3);
        x.member(3, 4);
        x.member(-1, 4);
        x.member(0, 16);
        for (int g = 0; g < 3; g++) {
            due("members", x.group(0, g, 1), g == 0 ? 1 : 0);
            due("members there", x.group(1, g, 1), 0);
        }
    }

    // ---- 5: which member is rung

    private static void groupTown(int most, int... members) {
        usualTown(2);
        x.waiting(0, 0, most);
        for (int l : members) x.member(0, l);
    }

    static void promise5_ofLikeOnesTheFirstMemberIsRung() {
        groupTown(0, 5, 3, 4);
        call(0, 7);
        due("line 5", x.line(5, 1), 5);
        call(1, 7);
        due("line 3", x.line(3, 1), 5);
        call(2, 7);
        due("line 4", x.line(4, 1), 5);
    }

    static void promise5_theLeastSinceIsRung() {
        // Both hang up, the later member a tick ahead of the first one.
        groupTown(0, 5, 3);
        x.hook(5, true);
        x.hook(3, true);
        x.tick(1);
        x.hook(3, false);
        x.tick(1);
        x.hook(5, false);
        x.tick(40);
        call(0, 7);
        due("line 3", x.line(3, 1), 5);
        due("not line 5", x.line(5, 1), 0);
    }

    static void promise5_hungUpInOneTickTheyAreAlike() {
        groupTown(0, 5, 3);
        x.hook(5, true);
        x.hook(3, true);
        x.tick(1);
        x.hook(3, false);
        x.hook(5, false);
        x.tick(40);
        call(0, 7);
        due("line 5", x.line(5, 1), 5);
    }

    static void promise5_rungNoMoreIsFreeAnew() {
        groupTown(0, 5, 3);
        call(0, 7);
        hang(0);
        call(0, 7);
        due("line 3 was free from the first", x.line(3, 1), 5);
        hang(0);
        call(0, 7);
        due("then line 5 again", x.line(5, 1), 5);
    }

    static void promise5_oneThatIsLiftedOrRungIsNotFree() {
        groupTown(0, 5, 3);
        lift(5);
        call(0, 2, 3);
        call(1, 7);
        due("none is free, none may wait", x.line(1, 4), 2);
        hang(5);
        hang(1);
        call(1, 7);
        due("line 5 is free", x.line(5, 1), 5);
    }

    // ---- 6: waiting

    static void promise6_exchangeIs0Or1() {
        town(1, 0);
        dueOutside("exchange", e -> x.waiting(e, 0, 1), 0, 1);
        due("0", x.waiting(0, 0, 1), 0);
        due("1", x.waiting(1, 0, 1), 0);
    }

    static void promise6_groupIs0To2() {
        town(1, 0);
        dueOutside("group", g -> x.waiting(0, g, 1), 0, 2);
        for (int g = 0; g <= 2; g++) due("group " + g, x.waiting(0, g, 1), 0);
    }

    static void promise6_mostIs0To10() {
        town(1, 0);
        dueOutside("most", n -> x.waiting(0, 0, n), 0, 10);
        for (int n = 0; n <= 10; n++) due("before " + n, x.waiting(0, 0, n), n == 0 ? 0 : n - 1);
        due("before 0", x.waiting(0, 0, 0), 10);
    }

    static void promise6_whatIsRefusedChangesNothing() {
        town(1, 0);
        x.waiting(0, 0, 4);
        x.waiting(0, 0, 11);
        x.waiting(0, 0, -1);
        x.waiting(2, 0, 5);
        due("still", x.waiting(0, 0, 0), 4);
    }

    static void promise6_at0NobodyWaits() {
        groupTown(0);
        call(0, 7);
        dueState("no member", 0, NONE, 2);
        due("waits", x.group(0, 0, 0), 0);
    }

    static void promise6_at1TheSecondFails() {
        groupTown(1);
        call(0, 7);
        dueState("the first", 0, 4, 0);
        call(1, 7);
        dueState("the second", 1, NONE, 2);
        due("waits", x.group(0, 0, 0), 1);
    }

    static void promise6_at10TheEleventhFails() {
        town(16, 0);
        row(0, 1, 3, 0, 0, 7);
        row(1, 1, 1, 0, 0, 7);
        x.waiting(0, 0, 10);
        for (int l = 0; l < 10; l++) {
            call(l, 7);
            x.tick(4);
            due("waits", x.group(0, 0, 0), l + 1);
        }
        call(10, 7);
        x.tick(4);
        dueState("the eleventh", 10, NONE, 2);
        due("waits", x.group(0, 0, 0), 10);
        hang(9);
        x.tick(4);
        hang(10);
        call(10, 7);
        x.tick(4);
        due("one has gone, one has come", x.group(0, 0, 0), 10);
        due("it rings there", x.line(10, 2), 2);
    }

    static void promise6_thoseThatWaitStay() {
        groupTown(3);
        for (int l = 0; l < 3; l++) call(l, 7);
        due("might before", x.waiting(0, 0, 1), 3);
        x.tick(10);
        due("all wait", x.group(0, 0, 0), 3);
        call(3, 7);
        dueState("one more", 3, NONE, 2);
        hang(2);
        hang(1);
        hang(3);
        call(3, 7);
        dueState("one waits, one may", 3, NONE, 2);
        hang(0);
        hang(3);
        call(3, 7);
        due("none waits", x.line(3, 2), 4);
    }

    static void promise6_behindOneThatWaitsOthersWaitThoughAMemberIsFree() {
        // Line 1 becomes a member while line 0 waits; line 2 comes to the group in that tick.
        groupTown(1);
        call(0, 7);
        lift(2);
        x.member(0, 1);
        dialAll(2, 7);
        dueState("one waits ahead of it, and one may", 2, NONE, 2);
        dueState("the one that waited rings", 0, 2, 0);
    }

    // ---- 7: feature

    static void promise7_lineIs0To15() {
        town(1, 0);
        dueOutside("line", l -> x.feature(l, 0, true), 0, 15);
        due("0", x.feature(0, 0, true), 0);
        due("15", x.feature(15, 0, true), 0);
    }

    static void promise7_whatIs0To2() {
        town(1, 0);
        dueOutside("what", w -> x.feature(3, w, true), 0, 2);
        for (int what = 0; what <= 2; what++) due("what", x.feature(3, what, true), 0);
        for (int what = 0; what <= 2; what++) due("what", x.feature(3, what, false), 1);
    }

    static void promise7_whatIsRefusedChangesNothing() {
        town(1, 0);
        x.feature(3, 3, true);
        x.feature(3, -1, true);
        x.feature(16, 0, true);
        for (int what = 0; what <= 2; what++) {
            due("line 3", x.feature(3, what, false), 0);
            due("line 0", x.feature(0, what, false), 0);
        }
    }

    static void promise7_notDisturbIsAheadOfAllElse() {
        usualTown(2);
        x.feature(1, 0, true);
        keys(2, 2);
        x.forward(1, 0);
        call(0, 2, 1);
        dueState("it forwards always", 0, NONE, 8);
        due("line 2", x.line(2, 1), 0);
    }

    static void promise7_barredIsAheadOfNoCircuit() {
        farTown(1, 1);
        x.feature(0, 1, true);
        due("barred", goesOut(0, 1), 8);
        due("not barred", goesOut(1, 1), 3);
        hang(0);
        due("barred, but with rank", goesOut(0, 2), 0);
    }

    static void promise7_barredOnlyAsSideA() {
        // A call that comes by a circuit goes on by another one; the line that is called is barred.
        town(2, 0);
        row(0, 2, 1, 0, 0, 5);
        row(1, 2, 1, 1, 0, 5);
        row(0, 1, 0, 1, 0, 1);
        x.feature(1, 1, true);
        for (int l = 8; l < 16; l++) x.feature(l, 1, true);
        call(0, 5, 1);
        x.tick(4);
        due("line 1", x.line(1, 1), 5);
    }

    static void promise7_withoutWaitingBusy() {
        usualTown(1);
        talk(0, 1);
        call(2, 2, 1);
        dueState("no waiting", 2, NONE, 2);
        hang(2);
        x.feature(1, 2, true);
        call(2, 2, 1);
        due("waiting", x.line(2, 2), 2);
        call(3, 2, 1);
        dueState("it has an other", 3, NONE, 2);
    }

    static void promise7_waitingOnlyInTalk() {
        usualTown(1);
        for (int l = 1; l < 4; l++) x.feature(l, 2, true);
        lift(1);
        call(0, 2, 1);
        dueState("dialling", 0, NONE, 2);
        dialAll(1, 2, 4);
        hang(0);
        call(0, 2, 1);
        dueState("ringing", 0, NONE, 2);
        hang(0);
        lift(4);
        call(0, 2, 1);
        due("in talk", x.line(0, 2), 2);
    }

    // ---- 8: forward

    static void promise8_lineIs0To15() {
        town(1, 0);
        dueOutside("line", l -> x.forward(l, 0), 0, 15);
        due("0", x.forward(0, 0), 1);
        due("15", x.forward(15, 0), 1);
    }

    static void promise8_whenIs0To2() {
        town(1, 0);
        dueOutside("when", w -> x.forward(0, w), 0, 2);
        for (int w = 0; w <= 2; w++) due("when " + w, x.forward(0, w), 1);
    }

    static void promise8_theKeysAreGoneThen() {
        town(1, 0);
        keys(1, 2, 3);
        x.forward(0, 0);
        due("keys", x.keyless(), 0);
    }

    static void promise8_theKeysStayWhenItIsRefused() {
        town(1, 0);
        keys(1, 2, 3);
        x.forward(0, 3);
        x.forward(16, 0);
        due("keys", x.keyless(), 3);
    }

    static void promise8_whatIsRefusedForwardsNothing() {
        usualTown(1);
        keys(2, 2);
        for (int when : new int[] {-1, 3}) x.forward(1, when);
        x.keyless();
        call(0, 2, 1);
        due("line 1", x.line(1, 1), 5);
    }

    static void promise8_withoutKeysNoMore() {
        for (int when = 0; when <= 2; when++) {
            usualTown(1);
            keys(2, 2);
            x.forward(1, when);
            if (when == 1) lift(1);
            due("no more", x.forward(1, when), 1);
            call(0, 2, 1);
            x.tick(300);
            due("line 2 at " + when, x.line(2, 1), 0);
            due("line 1 at " + when, x.line(1, 1), when == 1 ? 1 : 5);
        }
    }

    static void promise8_twelveKeysMayBeForwardedTo() {
        town(1, 0);
        row(0, 1, 0, 1, 0, 1);
        row(0, 12, 0, 2, 0, 2);
        keys(2, 1, 2, 3, 4, 5, 6, 7, 8, 9, 10, 11);
        x.forward(1, 0);
        call(0, 1);
        due("line 2", x.line(2, 1), 5);
        due("its keys", x.line(0, 7), 12);
    }

    static void promise8_keysThatAreNotWholeFail1() {
        int[][] notWhole = {{2}, {2, 2, 2}, {9}};
        for (int[] k : notWhole) {
            usualTown(1);
            keys(k);
            x.forward(1, 0);
            call(0, 2, 1);
            dueState("keys", 0, NONE, 1);
        }
    }

    static void promise8_theFirstAndTheLastRowMayBeForwardedTo() {
        town(1, 0);
        for (int i = 0; i < 24; i++) row(0, 2, 0, i % 7 + 1, 0, i / 12, i % 12);
        // Row 0 is line 1, row 1 line 2, row 23 line 3.
        int[][] cases = {{0, 0, 1}, {1, 11, 3}};
        for (int[] c : cases) {
            keys(c[0], c[1]);
            x.forward(2, 0);
            call(0, 0, 1);
            due("line " + c[2], x.line(c[2], 1), 5);
            hang(0);
        }
    }

    /** Line 1 forwards to 2, that to 3, and so on for so many lines. */
    private static void forwardOn(int first, int count) {
        for (int l = first; l < first + count; l++) {
            keys(2, l % 8 + 1);
            x.forward(l, 0);
        }
    }

    static void promise8_fiveForwardsAreDoneTheSixthFails2() {
        usualTown(1);
        forwardOn(1, 5);
        call(0, 2, 1);
        due("five", x.line(6, 1), 5);
        hang(0);
        keys(2, 7);
        x.forward(6, 0);
        call(0, 2, 1);
        dueState("six", 0, NONE, 2);
        due("line 7", x.line(7, 1), 0);
    }

    static void promise8_aCircleOfForwardsFails2() {
        usualTown(1);
        keys(2, 1);
        x.forward(1, 0);
        call(0, 2, 1);
        dueState("to itself", 0, NONE, 2);
        keys(2, 3);
        x.forward(2, 0);
        keys(2, 2);
        x.forward(3, 0);
        hang(0);
        call(0, 2, 2);
        dueState("to one another", 0, NONE, 2);
    }

    static void promise8_theForwardsOfAnIamCountOn() {
        for (int there = 3; there <= 4; there++) {
            usualTown(1);
            // Two here, the second one to the other exchange; three or four there.
            keys(2, 2);
            x.forward(1, 0);
            keys(3, 2, 0);
            x.forward(2, 0);
            forwardOn(8, there);
            call(0, 2, 1);
            x.tick(4);
            due("line " + (8 + there), x.line(8 + there, 1), there == 3 ? 5 : 0);
            due("cause", x.line(0, 4), there == 3 ? 0 : 2);
        }
    }

    static void promise8_alwaysIsAheadOfFree() {
        usualTown(1);
        keys(2, 2);
        x.forward(1, 0);
        call(0, 2, 1);
        due("line 1", x.line(1, 1), 0);
        due("line 2", x.line(2, 1), 5);
    }

    static void promise8_whenBusyIsBehindWaiting() {
        usualTown(1);
        x.feature(1, 2, true);
        keys(2, 3);
        x.forward(1, 1);
        talk(0, 1);
        call(2, 2, 1);
        due("other", x.line(1, 3), 1);
        call(4, 2, 1);
        due("line 3, for there is an other", x.line(3, 1), 5);
    }

    // ---- 9: tariff

    static void promise9_zoneIs0To3() {
        town(1, 0);
        dueOutside("zone", z -> x.tariff(z, 0, 1, 0, 0), 0, 3);
        for (int z = 0; z <= 3; z++) due("zone " + z, x.tariff(z, 0, 1, 0, 0), 1);
    }

    static void promise9_setupIs0To10000() {
        town(1, 0);
        dueOutside("setup", n -> x.tariff(0, n, 1, 0, 0), 0, 10000);
        due("0", x.tariff(0, 0, 1, 0, 0), 1);
        due("10000", x.tariff(0, 10000, 1, 0, 0), 1);
    }

    static void promise9_stepIs1To1000() {
        town(1, 0);
        dueOutside("step", n -> x.tariff(0, 0, n, 0, 0), 1, 1000);
        due("1", x.tariff(0, 0, 1, 0, 0), 1);
        due("1000", x.tariff(0, 0, 1000, 0, 0), 1);
    }

    static void promise9_dayAndNightAre0To200() {
        town(1, 0);
        dueOutside("day", n -> x.tariff(0, 0, 1, n, 0), 0, 200);
        dueOutside("night", n -> x.tariff(0, 0, 1, 0, n), 0, 200);
        due("0", x.tariff(0, 0, 1, 0, 0), 1);
        due("200", x.tariff(0, 0, 1, 200, 200), 1);
    }

    /** 8 is room 0, in zone 2; line 0 has a credit. */
    private static void chargedTown(int credit) {
        town(1, 0);
        row(0, 1, 4, 0, 2, 8);
        x.credit(0, credit);
    }

    static void promise9_whatIsRefusedChangesNothing() {
        chargedTown(1000);
        x.tariff(2, 5, 10, 4, 3);
        int[][] bad = {{4, 9, 9, 9, 9}, {2, -1, 9, 9, 9}, {2, 9, 0, 9, 9}, {2, 9, 9, 201, 9},
            {2, 9, 9, 9, -1}};
        for (int[] b : bad) x.tariff(b[0], b[1], b[2], b[3], b[4]);
        call(0, 8);
        due("setup and night", x.line(0, 6), 992);
        x.tick(9);
        due("T 9", x.line(0, 6), 992);
        x.tick(1);
        due("T 10", x.line(0, 6), 989);
    }

    static void promise9_atFirstAZoneCostsNothing() {
        chargedTown(0);
        call(0, 8);
        x.tick(1000);
        x.tick(1000);
        dueState("without credit", 0, 3, 0);
        due("credit", x.line(0, 6), 0);
        hang(0);
        call(0, 8);
        dueState("answered by day", 0, 3, 0);
    }

    static void promise9_theMostOfAllIsCharged() {
        chargedTown(1000000);
        x.tariff(2, 10000, 1, 200, 200);
        call(0, 8);
        due("the first charge", x.line(0, 6), 1000000 - 10200);
        x.tick(1);
        due("T 1", x.line(0, 6), 1000000 - 10400);
    }

    static void promise9_stepOf1000() {
        chargedTown(100);
        x.tariff(2, 0, 1000, 0, 7);
        call(0, 8);
        due("T 0", x.line(0, 6), 93);
        // T 1000 is in tick 1001, by day.
        x.tariff(2, 0, 1000, 5, 7);
        x.tick(999);
        due("T 999", x.line(0, 6), 93);
        x.tick(1);
        due("T 1000", x.line(0, 6), 88);
        x.tick(999);
        due("T 1999", x.line(0, 6), 88);
        x.tick(1);
        due("T 2000", x.line(0, 6), 83);
    }

    static void promise9_tGoesOnWithANewStep() {
        chargedTown(100);
        x.tariff(2, 0, 100, 1, 1);
        call(0, 8);
        x.tick(29);
        x.tariff(2, 0, 30, 1, 1);
        due("T 29", x.line(0, 6), 99);
        x.tick(1);
        due("T 30", x.line(0, 6), 98);
        x.tariff(2, 0, 40, 1, 1);
        x.tick(9);
        due("T 39", x.line(0, 6), 98);
        x.tick(1);
        due("T 40", x.line(0, 6), 97);
    }

    static void promise9_nightIsBelow800Of2400() {
        int[][] cases = {{799, 1}, {800, 10}, {2399, 10}, {2400, 1}, {3199, 1}, {3200, 10}};
        for (int[] c : cases) {
            chargedTown(100);
            x.tariff(2, 0, 1000, 10, 1);
            // The key comes in the tick that is asked about.
            ticksUntil(c[0] - 1);
            call(0, 8);
            due("answered at " + c[0], x.line(0, 6), 100 - c[1]);
        }
    }

    static void promise9_aLaterChargeHasThePriceOfItsTick() {
        int[][] cases = {{799, 1}, {800, 10}};
        for (int[] c : cases) {
            chargedTown(100);
            x.tariff(2, 0, 50, 10, 1);
            ticksUntil(c[0] - 51);
            call(0, 8);
            due("by night", x.line(0, 6), 99);
            x.tick(50);
            due("then", x.line(0, 6), 99 - c[1]);
        }
    }

    // ---- 10: credit

    static void promise10_lineIs0To15() {
        town(1, 0);
        dueOutside("line", l -> x.credit(l, 5), 0, 15);
        due("0", x.credit(0, 5), NONE);
        due("15", x.credit(15, 5), NONE);
    }

    static void promise10_centsAreNoneOr0To1000000() {
        town(1, 0);
        dueOutside("cents", c -> x.credit(0, c), NONE, 1000000);
        due("0", x.credit(0, 0), NONE);
        due("1000000", x.credit(0, 1000000), 0);
        due("none", x.credit(0, NONE), 1000000);
        due("then", x.credit(0, 1), NONE);
    }

    static void promise10_whatIsRefusedChangesNothing() {
        town(1, 0);
        x.credit(0, 17);
        x.credit(0, -2);
        x.credit(0, 1000001);
        x.credit(16, 3);
        due("still", x.line(0, 6), 17);
    }

    static void promise10_aCreditLikeTheChargeIsEnough() {
        int[][] cases = {{15, 0}, {14, 5}};
        for (int[] c : cases) {
            chargedTown(c[0]);
            x.tariff(2, 12, 10, 0, 3);
            call(0, 8);
            due("cause with " + c[0], x.line(0, 4), c[1]);
            due("credit with " + c[0], x.line(0, 6), c[1] == 0 ? 0 : 14);
        }
    }

    static void promise10_aLaterChargeLikeTheCreditIsEnough() {
        int[][] cases = {{18, 0}, {17, 5}};
        for (int[] c : cases) {
            chargedTown(c[0]);
            x.tariff(2, 12, 10, 0, 3);
            call(0, 8);
            x.tick(9);
            due("in talk", x.line(0, 2), 3);
            x.tick(1);
            due("cause with " + c[0], x.line(0, 4), c[1]);
            due("credit with " + c[0], x.line(0, 6), c[1] == 0 ? 0 : 2);
        }
    }

    static void promise10_aChargeOf0NeedsNoCredit() {
        chargedTown(0);
        x.tariff(2, 0, 1, 0, 0);
        call(0, 8);
        x.tick(5);
        dueState("in talk", 0, 3, 0);
        due("credit", x.line(0, 6), 0);
    }

    static void promise10_withoutCreditItTalksOn() {
        chargedTown(NONE);
        x.tariff(2, 10000, 1, 200, 200);
        call(0, 8);
        x.tick(5);
        dueState("in talk", 0, 3, 0);
        due("credit", x.line(0, 6), NONE);
        hang(0);
        due("cents", x.record(0, 4), 10000 + 200 + 44 * 200);
    }

    // ---- 13: say

    static void promise13_lineIs0To15() {
        town(1, 0);
        dueOutside("line", l -> x.say(l, 5), 0, 15);
        due("0", x.say(0, 5), 0);
        due("15", x.say(15, 5), 0);
    }

    static void promise13_whatIsSaidIsWithin8000() {
        town(1, 0);
        dueOutside("v", v -> x.say(0, v), -8000, 8000);
        due("-8000", x.say(0, -8000), 0);
        due("8000", x.say(0, 8000), -8000);
        due("0", x.say(0, 0), 8000);
    }

    static void promise13_whatIsRefusedChangesNothing() {
        town(1, 0);
        x.say(0, 77);
        x.say(0, 8001);
        x.say(0, -8001);
        x.say(16, 5);
        due("still", x.say(0, 0), 77);
    }
}
