/**
 * The boundary cases of the link's bits and numbers: promises 14, 15, 24 and 25. Each sentence of
 * the document that names one has a method of its own.
 */
public final class LinkBoundariesTest extends Forger {
    private static final String FLAG = "01111110";
    private static final int MADE = 0, ACKED = 1, NEXT = 2, GOT = 3, FIB = 4, BIB = 5, SPOILED = 6;
    private static final int[] IAM = {0, 1, 0, 2, 2, 4};

    public static void main(String[] args) throws ReflectiveOperationException {
        runAll(LinkBoundariesTest.class);
    }

    // ---- 14: spoil

    static void promise14_exchangeIs0Or1() {
        town(1, 0);
        for (int e : new int[] {MIN, -1, 2, MAX}) due("exchange " + e, x.spoil(e, 5, 0), BAD);
        due("exchange 0", x.spoil(0, 5, 0), 1);
        due("exchange 1", x.spoil(1, 5, 0), 2);
    }

    static void promise14_unitIsNowTo100000Later() {
        town(1, 0);
        due("ahead of the first tick", x.spoil(0, 0, 0), 1);
        due("-1", x.spoil(0, -1, 0), BAD);
        due("100000", x.spoil(0, 100000, 0), 2);
        due("100001", x.spoil(0, 100001, 0), BAD);
        x.tick(7);
        for (int n : new int[] {MIN, -1, 0, 6, 100008, MAX}) {
            due("unit " + n, x.spoil(0, n, 0), BAD);
        }
        due("unit 7", x.spoil(0, 7, 0), 2);
        due("unit 100007", x.spoil(0, 100007, 0), 3);
    }

    static void promise14_bitIs0To255() {
        town(1, 0);
        for (int k : new int[] {MIN, -1, 256, MAX}) due("bit " + k, x.spoil(0, 5, k), BAD);
        due("bit 0", x.spoil(0, 5, 0), 1);
        due("bit 255", x.spoil(0, 5, 255), 2);
    }

    static void promise14_eachBitOfAUnitSpoilsIt() {
        // Units without a message have 56 bits here.
        town(1, 0);
        for (int k = 0; k < 60; k++) x.spoil(0, k, k);
        x.tick(2);
        for (int k = 0; k < 60; k++) {
            x.tick(1);
            due("bit " + k, x.link(1, SPOILED), Math.min(k + 1, 56));
        }
    }

    static void promise14_bitsThatItHasNotAreNothing() {
        town(1, 0);
        for (int k = 56; k < 256; k++) x.spoil(1, k, k);
        x.tick(300);
        due("spoiled", x.link(0, SPOILED), 0);
    }

    static void promise14_turnedTwiceIsWhole() {
        town(1, 0);
        for (int i = 0; i < 2; i++) x.spoil(0, 0, 20);
        for (int i = 0; i < 3; i++) x.spoil(0, 1, 20);
        x.tick(3);
        due("twice", x.link(1, SPOILED), 0);
        x.tick(1);
        due("three times", x.link(1, SPOILED), 1);
    }

    static void promise14_onlyThatExchangesUnit() {
        town(1, 0);
        x.spoil(0, 4, 20);
        x.tick(10);
        due("came to 1", x.link(1, SPOILED), 1);
        due("came to 0", x.link(0, SPOILED), 0);
    }

    static void promise14_itComesSpoiledTwoTicksLater() {
        town(1, 0);
        x.spoil(0, 4, 20);
        x.tick(6);
        due("ahead of tick 6", x.link(1, SPOILED), 0);
        x.tick(1);
        due("behind tick 6", x.link(1, SPOILED), 1);
    }

    static void promise14_thoseThatWereSentCountNoMore() {
        town(1, 0);
        due("unit 0", x.spoil(0, 0, 1), 1);
        due("unit 0 of the other", x.spoil(1, 0, 1), 2);
        due("unit 1", x.spoil(1, 1, 1), 3);
        due("unit 2", x.spoil(0, 2, 1), 4);
        x.tick(1);
        due("two were sent", x.spoil(0, 3, 1), 3);
        x.tick(1);
        due("three were sent", x.spoil(0, 3, 1), 3);
        x.tick(2);
        due("all were sent", x.spoil(0, 4, 1), 1);
    }

    static void promise14_300AreHeldThe301stIsFull() {
        town(1, 0);
        for (int i = 1; i <= 300; i++) due("the " + i, x.spoil(i % 2, i / 2, 20), i);
        due("the 301st", x.spoil(0, 200, 20), FULL);
        x.tick(1);
        // Unit 0 of exchange 1 was sent alone: the first told is of 1 and 1 / 2.
        due("one more", x.spoil(0, 200, 20), 300);
        due("again", x.spoil(0, 200, 20), FULL);
    }

    static void promise14_badAheadOfFull() {
        town(1, 0);
        for (int i = 1; i <= 300; i++) x.spoil(0, 5, 20);
        due("exchange", x.spoil(2, 5, 20), BAD);
        due("unit", x.spoil(0, 100001, 20), BAD);
        due("bit", x.spoil(0, 5, 256), BAD);
    }

    static void promise14_whatIsRefusedSpoilsNothing() {
        town(1, 0);
        for (int i = 1; i <= 300; i++) x.spoil(0, 50, 20);
        x.spoil(0, 3, 20);
        x.spoil(1, 3, 20);
        x.spoil(0, 4, 256);
        x.spoil(0, 4, -1);
        x.tick(10);
        due("came to 1", x.link(1, SPOILED), 0);
        due("came to 0", x.link(0, SPOILED), 0);
        x.tick(60);
        due("turned 300 times", x.link(1, SPOILED), 0);
    }

    static void promise14_lostOnesCountApart() {
        town(1, 0);
        for (int i = 1; i <= 300; i++) x.lose(0, 5);
        due("spoil", x.spoil(0, 5, 1), 1);
    }

    // ---- 15: lose

    static void promise15_exchangeIs0Or1() {
        town(1, 0);
        for (int e : new int[] {MIN, -1, 2, MAX}) due("exchange " + e, x.lose(e, 5), BAD);
        due("exchange 0", x.lose(0, 5), 1);
        due("exchange 1", x.lose(1, 5), 2);
    }

    static void promise15_unitIsNowTo100000Later() {
        town(1, 0);
        due("ahead of the first tick", x.lose(0, 0), 1);
        due("-1", x.lose(0, -1), BAD);
        due("100000", x.lose(0, 100000), 2);
        due("100001", x.lose(0, 100001), BAD);
        x.tick(7);
        for (int n : new int[] {MIN, -1, 0, 6, 100008, MAX}) due("unit " + n, x.lose(0, n), BAD);
        due("unit 7", x.lose(0, 7), 2);
        due("unit 100007", x.lose(0, 100007), 3);
    }

    static void promise15_toldTwiceCountsTwice() {
        town(1, 0);
        due("once", x.lose(0, 0), 1);
        due("twice", x.lose(0, 0), 2);
        due("of the other", x.lose(1, 1), 3);
        x.tick(1);
        due("two were sent", x.lose(1, 1), 2);
    }

    static void promise15_toldTwiceIsLostAllTheSame() {
        usualTown(1);
        x.lose(0, 3);
        x.lose(0, 3);
        call(0, 3, 2, 4);
        x.tick(2);
        due("it did not come", x.circuit(1, 0), 0);
        due("nor spoiled", x.link(1, SPOILED), 0);
    }

    static void promise15_lostAndSpoiledIsLost() {
        town(1, 0);
        x.lose(0, 3);
        x.spoil(0, 3, 20);
        x.tick(10);
        due("spoiled", x.link(1, SPOILED), 0);
    }

    static void promise15_300AreHeldThe301stIsFull() {
        town(1, 0);
        for (int i = 1; i <= 300; i++) due("the " + i, x.lose(i % 2, i / 2), i);
        due("the 301st", x.lose(0, 200), FULL);
        x.tick(1);
        due("one more", x.lose(0, 200), 300);
        due("again", x.lose(0, 200), FULL);
    }

    static void promise15_badAheadOfFull() {
        town(1, 0);
        for (int i = 1; i <= 300; i++) x.lose(0, 5);
        due("exchange", x.lose(2, 5), BAD);
        due("unit", x.lose(0, 100001), BAD);
    }

    static void promise15_whatIsRefusedLosesNothing() {
        usualTown(1);
        for (int i = 1; i <= 300; i++) x.lose(1, 5000);
        due("full", x.lose(0, 3), FULL);
        due("bad", x.lose(2, 3), BAD);
        call(0, 3, 2, 4);
        x.tick(2);
        due("it came", x.circuit(1, 0), 2);
    }

    static void promise15_spoiledOnesCountApart() {
        town(1, 0);
        for (int i = 1; i <= 300; i++) x.spoil(0, 5, 1);
        due("lose", x.lose(0, 5), 1);
    }

    // ---- 24: what is asked

    static void promise24_exchangeIs0Or1() {
        town(1, 0);
        for (int what = 0; what < 7; what++) {
            for (int e : new int[] {MIN, -1, 2, MAX}) due("exchange " + e, x.link(e, what), BAD);
        }
    }

    static void promise24_whatIs0To6() {
        town(1, 0);
        int[] want = {0, 0, 0, 0, 1, 1, 0};
        for (int e = 0; e < 2; e++) {
            for (int what : new int[] {MIN, -1, 7, MAX}) due("what " + what, x.link(e, what), BAD);
            for (int what = 0; what < 7; what++) due("what", x.link(e, what), want[what]);
        }
    }

    // ---- 24: units that come spoiled

    private static void dueSpoiled(String what, String unit) {
        forge(2, NOTHING, (bsn, bib, fsn, fib) -> unit);
        x.tick(1);
        due(what + ": spoiled", x.link(1, SPOILED), 1);
        due(what + ": got", x.link(1, GOT), 0);
        due(what + ": BIB", x.link(1, BIB), 1);
    }

    private static void dueTaken(String what, String unit) {
        forge(2, NOTHING, (bsn, bib, fsn, fib) -> unit);
        x.tick(1);
        due(what + ": spoiled", x.link(1, SPOILED), 0);
        due(what + ": got", x.link(1, GOT), 1);
        due(what + ": line 12", x.line(12, 1), 5);
    }

    private static String turned(String unit, int k) {
        char other = unit.charAt(k) == '0' ? '1' : '0';
        return unit.substring(0, k) + other + unit.substring(k + 1);
    }

    static void promise24_aWholeUnitIsTaken() {
        dueTaken("whole", text(0, 1, 1, 1, IAM));
    }

    static void promise24_withoutTheFirstFlag() {
        for (int k = 0; k < 8; k++) dueSpoiled("bit " + k, turned(text(0, 1, 1, 1, IAM), k));
    }

    static void promise24_withoutAnotherFlag() {
        // In a unit that is just so long there is nothing behind its last flag.
        usualTown(1);
        call(0, 3, 2);
        int n = x.told(0);
        String sent = text(0, 1, 1, 1, IAM);
        x.spoil(0, n, sent.length() - 1);
        dialAll(0, 4);
        x.tick(2);
        due("spoiled", x.link(1, SPOILED), 1);
        due("got", x.link(1, GOT), 0);
        dueText("sent", bits(0, n), sent);
    }

    static void promise24_fromOneFlagToTheNext() {
        dueSpoiled("nothing between them", FLAG + FLAG);
        String unit = text(0, 1, 1, 1, IAM);
        dueSpoiled("a flag ahead of its end", unit.substring(0, 40) + FLAG + unit.substring(40));
        dueTaken("what is behind the second flag is free", unit + "1011" + FLAG);
    }

    static void promise24_aBitThatIsLeftOutIsNot1() {
        // BIB 1, FSN 127 and FIB 1 are nine ones, of which the first five have a 0 behind them.
        String unit = text(0, 1, 127, 1);
        int at = unit.indexOf("1111101111");
        due("they stand behind BSN", at, 15);
        dueSpoiled("1 for that 0", turned(unit, at + 5));
        forge(2, NOTHING, (bsn, bib, fsn, fib) -> unit);
        x.tick(1);
        due("with the 0: not spoiled", x.link(1, SPOILED), 0);
        due("with the 0: FSN is another, BIB is turned", x.link(1, BIB), 0);
        // And one in the last byte of a message: 63 is six ones.
        String release = text(0, 1, 1, 1, 0, 4, 63);
        dueSpoiled("in a message", turned(release, release.indexOf("1111101", 40) + 5));
    }

    static void promise24_fortyBitsAndEightForEachByte() {
        for (int told : new int[] {0, 1, 5, 7, 22, 38, 63}) {
            dueSpoiled("told " + told + " of 6", textTelling(told, 0, 1, 1, 1, IAM));
        }
        for (int told = 0; told < 6; told++) {
            for (int size = 0; size < 6; size++) {
                int[] message = new int[size];
                if (told != size) {
                    dueSpoiled("told " + told, textTelling(told, 0, 1, 1, 1, message));
                }
            }
        }
        String unit = text(0, 1, 1, 1, IAM);
        int end = unit.length() - 8;
        dueSpoiled("a bit more", unit.substring(0, end) + "0" + FLAG);
        dueSpoiled("a bit less", unit.substring(0, end - 1) + FLAG);
        dueSpoiled("39 bits", text(0, 1, 1, 1).substring(0, 47) + FLAG);
        dueSpoiled("32 bits", text(0, 1, 1, 1).substring(0, 40) + FLAG);
    }

    static void promise24_theCheck() {
        String unit = text(0, 1, 1, 1, IAM);
        int end = unit.length() - 8;
        for (int k = end - 16; k < end; k++) dueSpoiled("bit " + k, turned(unit, k));
        for (int k = 8; k < 32; k++) dueSpoiled("bit " + k, turned(unit, k));
    }

    static void promise24_onesAreCountedFromTheBodysFirstBit() {
        // Four, five and more ones behind the first flag; no such BSN was sent, so it is no more.
        for (int bsn : new int[] {1, 3, 7, 15, 31, 63, 127}) {
            forge(2, NOTHING, (b, i, f, j) -> text(bsn, 1, 1, 1, IAM));
            x.tick(1);
            due("BSN " + bsn + ": spoiled", x.link(1, SPOILED), 0);
            due("BSN " + bsn + ": got", x.link(1, GOT), 0);
        }
    }

    static void promise24_theTwo0AreNotLookedAt() {
        for (int zeros = 0; zeros < 4; zeros++) {
            dueTaken("they are " + zeros, textTelling(6 + 64 * zeros, 0, 1, 1, 1, IAM));
        }
    }

    static void promise24_fiveOnesAtTheEndHaveA0BehindThem() {
        // Of all units without a message, these end so: CHECK's five highest bits are 1.
        int count = 0;
        for (int fsn = 0; fsn < 128 && count < 3; fsn++) {
            String unit = text(0, 1, fsn, 1);
            if (!unit.endsWith("111110" + FLAG)) continue;
            count++;
            forge(2, NOTHING, (bsn, bib, f, fib) -> unit);
            x.tick(1);
            due("spoiled", x.link(1, SPOILED), 0);
            due("turned, but for FSN 0", x.link(1, BIB), fsn == 0 ? 1 : 0);
        }
        if (count == 0) fault("no such unit");
    }

    // ---- 24: numbers that come

    /** Line 8 sends message 0 of exchange 1 in the tick in which the forged unit is sent. */
    private static final Runnable ONE_SENT = () -> {
        call(8, 3, 2);
        x.dial(8, 4);
    };

    private static void dueLink(String what, int acked, int got, int fib, int bib) {
        due(what + ": acked", x.link(1, ACKED), acked);
        due(what + ": got", x.link(1, GOT), got);
        due(what + ": FIB", x.link(1, FIB), fib);
        due(what + ": BIB", x.link(1, BIB), bib);
    }

    private static void comeWith(Runnable before, int bsn, int bib, int fsn, int fib, int... m) {
        forge(2, before, (b, i, f, j) -> text(bsn, bib, fsn, fib, m));
        x.tick(1);
    }

    static void promise24_bsnUpToWhatWasSent() {
        comeWith(ONE_SENT, 0, 1, 1, 1, IAM);
        dueLink("k 0", 0, 1, 1, 1);
        comeWith(ONE_SENT, 1, 1, 1, 1, IAM);
        dueLink("k 1 of 1", 1, 1, 1, 1);
        for (int bsn : new int[] {2, 3, 126, 127}) {
            // BIB is another too: were it looked at, FIB would be that.
            comeWith(ONE_SENT, bsn, 0, 1, 1, IAM);
            dueLink("k " + bsn + " of 1: no more", 0, 0, 1, 1);
        }
        for (int bsn : new int[] {1, 127}) {
            comeWith(NOTHING, bsn, 0, 1, 1, IAM);
            dueLink("k " + bsn + " of 0: no more", 0, 0, 1, 1);
        }
    }

    static void promise24_bsnNextToWhatIsAcked() {
        // One message is acked, and no other was sent: BSN 1 is told, 0, 2 and 3 are no more.
        Runnable ringing = () -> {
            call(8, 3, 2, 4);
            x.tick(6);
        };
        for (int bsn = 0; bsn < 4; bsn++) {
            int told = bsn;
            forge(2, ringing, (b, i, f, j) -> text(told, 0, f, j, IAM));
            dueLink("before", 1, 1, 1, 1);
            x.tick(1);
            dueLink("BSN " + bsn, 1, bsn == 1 ? 2 : 1, bsn == 1 ? 0 : 1, 1);
        }
    }

    static void promise24_anotherBibSendsAllAgain() {
        comeWith(ONE_SENT, 0, 0, 0, 1);
        dueLink("FIB is that", 0, 0, 0, 1);
        due("message 0 goes again in this tick", x.link(1, NEXT), 1);
        dueText("the unit", bits(1, x.told(0) - 1).substring(0, 32),
                text(0, 1, 1, 0, 1, 1, 0, 2).substring(0, 24) + "01100000");
        comeWith(ONE_SENT, 1, 0, 0, 1);
        dueLink("it is acked", 1, 0, 0, 1);
        due("nothing goes again", x.link(1, NEXT), 1);
    }

    static void promise24_anotherFibIsNoMore() {
        comeWith(ONE_SENT, 1, 1, 1, 0, IAM);
        dueLink("acked all the same", 1, 0, 1, 1);
        comeWith(NOTHING, 0, 1, 2, 0, IAM);
        dueLink("not turned", 0, 0, 1, 1);
    }

    static void promise24_fsnOfWhatIsGotIsNoMore() {
        comeWith(NOTHING, 0, 1, 0, 1, IAM);
        dueLink("d 0 with a message", 0, 0, 1, 1);
        comeWith(NOTHING, 0, 1, 0, 1);
        dueLink("d 0 without", 0, 0, 1, 1);
    }

    static void promise24_fsnOfTheNextIsGotWithAMessage() {
        comeWith(NOTHING, 0, 1, 1, 1, IAM);
        dueLink("d 1 with a message", 0, 1, 1, 1);
        comeWith(NOTHING, 0, 1, 1, 1);
        dueLink("d 1 without: turned", 0, 0, 1, 0);
    }

    static void promise24_anyOtherFsnTurnsBib() {
        for (int fsn : new int[] {2, 3, 64, 126, 127}) {
            comeWith(NOTHING, 0, 1, fsn, 1, IAM);
            dueLink("d " + fsn + " with a message", 0, 0, 1, 0);
            comeWith(NOTHING, 0, 1, fsn, 1);
            dueLink("d " + fsn + " without", 0, 0, 1, 0);
        }
    }

    static void promise24_bibIsTurnedThoughMessagesAreToBeSent() {
        // Three are made in the tick before that in which the unit comes.
        Runnable three = () -> {
            for (int l = 8; l < 11; l++) call(l, 3);
            for (int l = 8; l < 11; l++) {
                x.dial(l, 2);
                x.dial(l, l - 6);
            }
        };
        forge(4, three, (b, i, f, j) -> text(0, 1, 5, 1));
        due("made", x.link(1, MADE), 3);
        due("next", x.link(1, NEXT), 1);
        x.tick(1);
        dueLink("turned", 0, 0, 1, 0);
        due("the next was sent", x.link(1, NEXT), 2);
    }

    static void promise24_bibIsTurnedAndTurnedAgain() {
        // IAM and its first going again are lost: BIB is turned twice, and is 1 again.
        usualTown(1);
        x.lose(0, 3);
        x.lose(0, 8);
        call(0, 3, 2, 4);
        x.tick(2);
        due("at first", x.link(1, BIB), 1);
        x.tick(1);
        due("turned", x.link(1, BIB), 0);
        x.tick(5);
        due("turned again", x.link(1, BIB), 1);
        x.tick(4);
        due("it came", x.link(1, GOT), 1);
        due("FIB", x.link(0, FIB), 1);
        due("line 12", x.line(12, 1), 5);
    }

    // ---- 24: numbers that wrap around

    /**
     * 9 leads to the other exchange and there back, until no circuit is idle: 24 messages of each
     * exchange with 16 circuits, IAM, REL and RLC.
     */
    private static void loopTown() {
        town(16, 0);
        row(0, 1, 2, 0, 0, 9);
        row(1, 1, 2, 0, 0, 9);
    }

    private static void loop() {
        call(0, 9);
        x.tick(100);
        hang(0);
    }

    private static void dueAllCame(String what, int made) {
        int[] want = {made, made, made, made};
        for (int e = 0; e < 2; e++) {
            for (int w = 0; w < 4; w++) due(what + ": " + w, x.link(e, w), want[w]);
        }
        due(what + ": idle circuits", x.told(4), 16);
        due(what + ": calls", x.told(2), 0);
    }

    static void promise24_fsnAndBsnAreMod128() {
        loopTown();
        for (int i = 1; i <= 12; i++) {
            loop();
            dueAllCame("loop " + i, 24 * i);
            due("BIB", x.link(0, BIB), 1);
            due("cause", x.line(0, 4), 3);
            due("bit 0 of FSN", x.bit(0, x.told(0) - 1, 16), 24 * i % 128 & 1);
        }
        // 288 messages: FSN and BSN are 32.
        dueText("unit of 0", bits(0, x.told(0) - 1), text(32, 1, 32, 1));
    }

    /** Ticks until exchange 0 has sent so many messages: its latest unit's BSN, BIB, FSN, FIB. */
    private static void dueStartWithFsn(int messages, int fsn) {
        for (int i = 0; i < 60 && x.link(0, NEXT) < messages; i++) x.tick(1);
        StringBuilder start = new StringBuilder();
        for (int k = 0; k < 24; k++) start.append(x.bit(0, x.told(0) - 1, k));
        dueText("message " + messages, start.toString(),
                text(x.link(0, GOT) % 128, 1, fsn, 1, 0, 0).substring(0, 24));
    }

    static void promise24_fsn126To1() {
        loopTown();
        for (int i = 0; i < 5; i++) loop();
        dueAllCame("loops", 120);
        call(0, 9);
        int[] fsn = {126, 127, 0, 1};
        for (int i = 0; i < 4; i++) dueStartWithFsn(126 + i, fsn[i]);
        x.tick(100);
        hang(0);
        dueAllCame("one loop more", 144);
    }

    static void promise24_goingAgainOverTheWrap() {
        loopTown();
        for (int i = 0; i < 5; i++) loop();
        // Each fourth unit of exchange 0 and each seventh of 1 is lost while 24 messages go.
        int now = x.told(0);
        for (int i = 0; i < 150; i++) {
            if (i % 4 == 0) x.lose(0, now + i);
            if (i % 7 == 0) x.lose(1, now + i);
        }
        call(0, 9);
        x.tick(1000);
        hang(0);
        x.tick(10);
        dueAllCame("all came", 144);
    }

    static void promise24_moreThan200MessagesInAll() {
        loopTown();
        for (int i = 0; i < 20; i++) loop();
        dueAllCame("loops", 480);
    }

    // ---- 25: bit

    static void promise25_exchangeIs0Or1() {
        town(1, 0);
        x.tick(1);
        for (int e : new int[] {MIN, -1, 2, MAX}) {
            due("exchange " + e, x.bit(e, 0, 0), BAD);
            due("bad ahead of none", x.bit(e, 9, 999), BAD);
        }
        due("exchange 0", x.bit(0, 0, 0), 0);
        due("exchange 1", x.bit(1, 0, 1), 1);
    }

    static void promise25_aheadOfTheFirstTickThereIsNone() {
        town(1, 0);
        for (int n : new int[] {MIN, -64, -1, 0, 1, MAX}) due("unit " + n, x.bit(0, n, 0), NONE);
    }

    static void promise25_theLatest64() {
        town(1, 0);
        x.tick(64);
        due("all of the first 64", x.bit(0, 0, 1), 1);
        due("the latest", x.bit(0, 63, 1), 1);
        due("not sent yet", x.bit(0, 64, 1), NONE);
        due("-1", x.bit(0, -1, 1), NONE);
        x.tick(1);
        due("the 65th before", x.bit(0, 0, 1), NONE);
        due("the 64th before", x.bit(0, 1, 1), 1);
        due("the latest", x.bit(0, 64, 1), 1);
        due("MIN", x.bit(0, MIN, 1), NONE);
        due("MAX", x.bit(0, MAX, 1), NONE);
    }

    static void promise25_eachOfThe64IsItsOwn() {
        // The IAM goes in tick 3: it can be read until 64 units behind it were sent.
        usualTown(1);
        call(0, 3, 2, 4);
        x.tick(63);
        int last = text(0, 1, 1, 1, IAM).length() - 1;
        due("the 64th before is the IAM", x.bit(0, 3, last), 0);
        due("behind its last bit", x.bit(0, 3, last + 1), NONE);
        due("the next one has no message", x.bit(0, 4, text(0, 1, 1, 1).length()), NONE);
        x.tick(1);
        due("it is gone", x.bit(0, 3, last), NONE);
        int length = text(1, 1, 1, 1).length();
        due("the one in its place", x.bit(0, 67, length - 1), 0);
        due("has no message", x.bit(0, 67, length), NONE);
    }

    static void promise25_bitsFrom0ToTheLast() {
        town(1, 0);
        x.tick(1);
        for (int k : new int[] {MIN, -1, 56, 57, 255, 256, MAX}) {
            due("bit " + k, x.bit(0, 0, k), NONE);
        }
        due("bit 0", x.bit(0, 0, 0), 0);
        due("bit 54", x.bit(0, 0, 54), 1);
        due("bit 55", x.bit(0, 0, 55), 0);
    }

    static void promise25_theLongestUnit() {
        town(16, 0);
        row(0, 12, 1, 0, 0, 11);
        call(0, 11, 11, 11, 11, 11, 11, 11, 11, 11, 11, 11, 11);
        String due = text(0, 1, 1, 1, 0, 1, 0, 12, 11, 11, 11, 11, 11, 11, 11, 11, 11, 11, 11, 11);
        dueText("twelve keys", bits(0, 12), due);
        due("behind its last bit", x.bit(0, 12, due.length()), NONE);
    }

    static void promise25_fiveOnesHaveA0BehindThem() {
        // When 127 messages were sent, BIB, FSN and FIB are nine ones.
        loopTown();
        for (int i = 0; i < 5; i++) loop();
        call(0, 9);
        dueStartWithFsn(127, 127);
    }

    static void promise25_asItWasSentThoughItWasSpoiledOrLost() {
        town(1, 0);
        for (int k = 0; k < 56; k++) x.spoil(0, 0, k);
        x.lose(0, 1);
        x.tick(2);
        dueText("spoiled", bits(0, 0), text(0, 1, 0, 1));
        dueText("lost", bits(0, 1), text(0, 1, 0, 1));
    }
}
