/**
 * The boundary cases of speech: promises 19 and 21. Each sentence of the document that names one
 * has a method of its own.
 */
public final class SpeechBoundariesTest extends Bench {
    private static final int SILENCE = 213;

    public static void main(String[] args) throws ReflectiveOperationException {
        runAll(SpeechBoundariesTest.class);
    }

    // ---- the laws, taken as rows of intervals: what is heard is the middle of the one that was met

    /** The number of v's interval by the law of exchange 0, the first of which is 0 .. 3. */
    private static int interval0(int v) {
        int start = 0;
        for (int i = 0; i < 128; i++) {
            start += width0(i);
            if (Math.abs(v) < start) return i;
        }
        return 127;
    }

    private static int width0(int i) {
        return i < 32 ? 4 : 2 << (i / 16);
    }

    private static int heard0(int v) {
        int start = 0;
        for (int i = 0; i < interval0(v); i++) start += width0(i);
        int middle = start + width0(interval0(v)) / 2;
        return v < 0 ? -middle : middle;
    }

    /** The law of exchange 1: its first interval is -1 .. 0, and their widths are 2, 4, 8 .. */
    private static int heard1(int v) {
        int start = -1;
        for (int i = 0; i < 128; i++) {
            int width = 2 << (i / 16);
            if (Math.abs(v) < start + width) return v < 0 ? -(start + width / 2) : start + width / 2;
            start += width;
        }
        return 0;
    }

    private static int byte0(int v) {
        return ((v < 0 ? 0 : 128) + interval0(v)) ^ 85;
    }

    /** Two lines of an exchange that talk. */
    private static void talkTown(int exchange) {
        town(1, 0);
        row(exchange, 1, 0, 8 * exchange + 1, 0, 1);
        call(8 * exchange, 1);
        lift(8 * exchange + 1);
    }

    private static void dueByLaw(int exchange) {
        int a = 8 * exchange, b = a + 1;
        for (int v = 0; v <= 8000; v++) {
            if (v % 90 == 0) talkTown(exchange);
            x.say(a, v);
            x.say(b, -v);
            x.tick(1);
            due("heard of " + v, x.heard(b), exchange == 0 ? heard0(v) : heard1(v));
            due("heard of -" + v, x.heard(a), exchange == 0 ? heard0(-v) : heard1(-v));
        }
    }

    // ---- 19: heard

    static void promise19_lineIs0To15() {
        town(1, 0);
        for (int l : new int[] {MIN, -1, 16, MAX}) due("line " + l, x.heard(l), BAD);
        due("line 0", x.heard(0), 0);
        due("line 15", x.heard(15), 0);
    }

    static void promise19_aheadOfTheFirstTickNothing() {
        town(1, 0);
        for (int l = 0; l < 16; l++) due("line " + l, x.heard(l), 0);
    }

    static void promise19_allThatCanBeSaidByTheLawOf0() {
        dueByLaw(0);
    }

    static void promise19_allThatCanBeSaidByTheLawOf1() {
        dueByLaw(1);
    }

    static void promise19_zeroIsHeardAs2By0AndAs0By1() {
        talkTown(0);
        due("by the law of 0", x.heard(1), 2);
        x.say(0, -1);
        x.tick(1);
        due("-1 by the law of 0", x.heard(1), -2);
        talkTown(1);
        due("by the law of 1", x.heard(9), 0);
        x.say(8, -1);
        x.tick(1);
        due("-1 by the law of 1", x.heard(9), -2);
    }

    static void promise19_theEdgesOfTheLawOf0() {
        int[][] edges = {{3, 2}, {4, 6}, {63, 62}, {64, 66}, {127, 126}, {128, 132}, {255, 252},
            {256, 264}, {4095, 4032}, {4096, 4224}, {7935, 7808}, {7936, 8064}, {8000, 8064}};
        talkTown(0);
        for (int[] e : edges) {
            x.say(0, e[0]);
            x.tick(1);
            due("heard of " + e[0], x.heard(1), e[1]);
        }
    }

    static void promise19_theEdgesOfTheLawOf1() {
        int[][] edges = {{0, 0}, {1, 2}, {2, 2}, {3, 4}, {30, 30}, {31, 33}, {94, 93}, {95, 99},
            {4062, 3999}, {4063, 4191}, {7902, 7775}, {7903, 8031}, {8000, 8031}};
        talkTown(1);
        for (int[] e : edges) {
            x.say(8, e[0]);
            x.tick(1);
            due("heard of " + e[0], x.heard(9), e[1]);
        }
    }

    static void promise19_withNoActiveInTalk0() {
        usualTown(1);
        x.say(0, 500);
        x.say(1, 500);
        lift(0);
        due("dialling", x.heard(0), 0);
        dialAll(0, 2, 1);
        due("ringing", x.heard(0), 0);
        due("rung", x.heard(1), 0);
        lift(1);
        due("talk", x.heard(0), 504);
        hang(1);
        due("over", x.heard(0), 0);
        due("hung up", x.heard(1), 0);
        x.waiting(0, 0, 1);
        hang(0);
        call(0, 7);
        due("waiting", x.heard(0), 0);
    }

    static void promise19_onlyOfTheLatestTick() {
        talkTown(0);
        x.say(0, 500);
        due("not before the tick", x.heard(1), 2);
        x.tick(1);
        due("in the tick", x.heard(1), 504);
        x.say(0, 0);
        x.tick(1);
        due("then", x.heard(1), 2);
    }

    static void promise19_oneThatIsHeldHearsWhatIsHeardOf0() {
        usualTown(1);
        x.feature(1, 2, true);
        for (int l = 0; l < 3; l++) x.say(l, 500);
        talk(0, 1);
        call(2, 2, 1);
        flash(1);
        due("line 1 hears its active", x.heard(1), 504);
        due("line 2 is heard", x.heard(2), 504);
        due("line 0 is held", x.heard(0), 2);
        hang(2);
        due("without active", x.heard(1), 0);
        due("line 0 is held still", x.heard(0), 2);
    }

    // ---- 19: rooms

    private static void roomOf(int exchange, int calls) {
        town(1, 0);
        row(exchange, 1, 4, 0, 0, 8);
        for (int i = 0; i < calls; i++) call(8 * exchange + i, 8);
    }

    static void promise19_aloneInARoom() {
        roomOf(0, 1);
        x.say(0, 8000);
        x.tick(1);
        due("by the law of 0", x.heard(0), 2);
        roomOf(1, 1);
        x.say(8, 8000);
        x.tick(1);
        due("by the law of 1", x.heard(8), 0);
    }

    static void promise19_aFullRoomIsNotAbove8000() {
        for (int e = 0; e < 2; e++) {
            roomOf(e, 8);
            for (int i = 0; i < 8; i++) x.say(8 * e + i, 8000);
            x.tick(1);
            for (int i = 0; i < 8; i++) due("loud", x.heard(8 * e + i), e == 0 ? 8064 : 8031);
            for (int i = 0; i < 8; i++) x.say(8 * e + i, -8000);
            x.tick(1);
            for (int i = 0; i < 8; i++) due("deep", x.heard(8 * e + i), e == 0 ? -8064 : -8031);
        }
    }

    static void promise19_theSumIsCutOnlyAtItsEnd() {
        // Heard are 8064, 8064, -8064, -8064 and 102: each hears the others' sum.
        roomOf(0, 5);
        int[] says = {8000, 8000, -8000, -8000, 100};
        for (int i = 0; i < 5; i++) x.say(i, says[i]);
        x.tick(1);
        due("all but 8064", x.heard(0), -8064);
        due("all but -8064", x.heard(2), 8064);
        due("all but 102", x.heard(4), 2);
    }

    static void promise19_justWithinAndJustAbove8000() {
        // 4224 and 3776 are 8000; 4224 and 3904 are 8128, which would be heard alike; 8064 and
        // 132 are 8196, which would have no code.
        int[][] cases = {{4224, 3776, 8064}, {4224, 3648, 7808}, {4224, 3904, 8064},
            {8000, 132, 8064}, {-4224, -3648, -7808}, {-8000, -132, -8064}};
        roomOf(0, 3);
        for (int[] c : cases) {
            x.say(0, c[0]);
            x.say(1, c[1]);
            x.tick(1);
            due(c[0] + " and " + c[1], x.heard(2), c[2]);
        }
    }

    static void promise19_oneWhoseCallIsNotActiveGives0ToARoom() {
        usualTown(1);
        x.feature(0, 2, true);
        call(0, 8);
        call(1, 8);
        call(2, 2, 0);
        for (int l = 0; l < 3; l++) x.say(l, 500);
        x.tick(1);
        due("in the room", x.heard(1), 504);
        flash(0);
        due("its active is another", x.heard(1), 2);
        due("it hears that", x.heard(0), 504);
        due("still in it", x.room(0, 0), 2);
    }

    static void promise19_roomsAreApart() {
        town(1, 0);
        for (int e = 0; e < 2; e++) for (int r = 0; r < 2; r++) row(e, 1, 4, r, 0, 5 + r);
        int[] lines = {0, 1, 8, 9};
        for (int l : lines) call(l, 5 + l % 2);
        for (int l : lines) x.say(l, 500);
        x.tick(1);
        for (int l : lines) due("line " + l, x.heard(l), l < 8 ? 2 : 0);
    }

    // ---- 21: speech

    static void promise21_exchangeIs0Or1() {
        town(1, 0);
        for (int e : new int[] {MIN, -1, 2, MAX}) due("exchange " + e, x.speech(e, 0), BAD);
        due("exchange 0", x.speech(0, 0), SILENCE);
        due("exchange 1", x.speech(1, 0), SILENCE);
    }

    static void promise21_circuitIs0ToCLess1() {
        for (int circuits : new int[] {1, 2, 15, 16}) {
            town(circuits, 0);
            for (int c : new int[] {MIN, -1, circuits, 16, MAX}) {
                due("circuit " + c, x.speech(0, c), BAD);
            }
            due("the last one", x.speech(1, circuits - 1), SILENCE);
        }
    }

    static void promise21_aheadOfTheFirstTickAndWithoutTalkThatOf0() {
        town(16, 0);
        for (int ticks = 0; ticks < 2; ticks++) {
            for (int e = 0; e < 2; e++) {
                for (int c = 0; c < 16; c++) due("circuit " + c, x.speech(e, c), SILENCE);
            }
            x.tick(1);
        }
        usualTown(2);
        x.say(0, 8000);
        x.say(12, 8000);
        call(0, 3, 2, 4);
        due("sent", x.speech(0, 0), SILENCE);
        x.tick(5);
        due("ringing", x.speech(0, 0), SILENCE);
        due("rung", x.speech(1, 0), SILENCE);
        lift(12);
        x.tick(3);
        due("talk", x.speech(0, 0), byte0(8000));
        due("the other one", x.speech(0, 1), SILENCE);
        x.hook(12, false);
        x.tick(39);
        due("talk", x.speech(1, 0), byte0(8031));
        x.tick(1);
        due("hung up: clearing", x.speech(1, 0), SILENCE);
        due("not yet here", x.speech(0, 0), byte0(8000));
        x.tick(2);
        due("over here", x.speech(0, 0), SILENCE);
    }

    /** Line 0 talks by circuit 0 with line 12. */
    private static void farTalk() {
        usualTown(1);
        call(0, 3, 2, 4);
        x.tick(4);
        lift(12);
        x.tick(4);
    }

    static void promise21_theBytesOfBothExchanges() {
        int[] values = {0, -1, 1, 3, 4, -4, 63, 64, -64, 127, 128, 4095, 4096, 7935, 7936, 8000,
            -8000};
        farTalk();
        for (int v : values) {
            x.say(0, v);
            x.say(12, v);
            x.tick(1);
            due("from 0, " + v, x.speech(0, 0), byte0(heard0(v)));
            due("from 1, " + v, x.speech(1, 0), byte0(heard1(v)));
        }
    }

    static void promise21_whatTheOtherEndPutInTheTickBefore() {
        farTalk();
        x.say(0, 1000);
        x.tick(1);
        due("put", x.speech(0, 0), byte0(1000));
        due("not heard yet", x.heard(12), heard1(2));
        x.say(0, 0);
        x.tick(1);
        due("heard a tick later", x.heard(12), heard1(heard0(1000)));
        x.tick(1);
        due("and no longer", x.heard(12), heard1(2));
    }

    static void promise21_aRoomsSumIsCutForACircuit() {
        town(1, 0);
        row(0, 1, 4, 0, 0, 8);
        row(1, 1, 1, 0, 0, 8);
        for (int l = 0; l < 7; l++) {
            call(l, 8);
            x.say(l, 8000);
        }
        call(8, 8);
        x.tick(6);
        due("loud", x.speech(0, 0), byte0(8000));
        for (int l = 0; l < 7; l++) x.say(l, -8000);
        x.tick(1);
        due("deep", x.speech(0, 0), byte0(-8000));
        x.say(8, 4000);
        x.tick(2);
        due("from it to the room", x.heard(0), heard0(-8000));
        for (int l = 0; l < 7; l++) x.say(l, 0);
        x.tick(1);
        due("six give 2, it gives its own", x.heard(0), heard0(12 + heard0(heard1(4000))));
    }

    static void promise21_aCircuitByACircuit() {
        // By exchange 1 and back: what line 0 says comes to line 1 two ticks later.
        town(2, 0);
        row(0, 2, 1, 0, 0, 5);
        row(1, 2, 1, 1, 0, 5);
        row(0, 1, 0, 1, 0, 1);
        call(0, 5, 1);
        x.tick(8);
        lift(1);
        x.tick(8);
        x.say(0, 1000);
        x.tick(1);
        due("put at 0", x.speech(0, 0), byte0(1000));
        due("not at 1", x.speech(1, 1), byte0(2));
        x.tick(1);
        due("put at 1", x.speech(1, 1), byte0(1000));
        due("not heard", x.heard(1), 2);
        x.tick(1);
        due("heard", x.heard(1), heard0(1000));
    }
}
