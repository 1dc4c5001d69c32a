/**
 * Messages that go again while more than one is not acked (promise 24): exchange 1 has sent three
 * and is asked for them again; then one more unit comes while NEXT is below HIGH.
 */
public final class LinkAgainTest extends Bench {
    private static final int MADE = 0, ACKED = 1, NEXT = 2, GOT = 3, FIB = 4, BIB = 5, SPOILED = 6;

    // Exchange 1's end before all went again.
    private static int acked, got, fib, bib, spoiled;

    public static void main(String[] args) throws ReflectiveOperationException {
        runAll(LinkAgainTest.class);
    }

    /**
     * Exchange 0 is about to send two IAMs of twelve keys, long enough to be turned into others;
     * exchange 1 has sent the first of three. In a town that is not new exchange 1 has messages
     * that were acked, a unit that came spoiled, and its BIB was turned.
     */
    private static void threeSent(boolean isNew) {
        usualTown(16);
        row(0, 12, 2, 0, 0, 9);
        if (!isNew) {
            x.spoil(0, 2, 20);
            call(15, 3, 2, 1);
            x.tick(4);
            x.lose(0, x.told(0) + 3);
            call(0, 3, 2, 5);
            x.tick(20);
        }
        for (int l = 6; l < 8; l++) call(l, 9, 9, 9, 9, 9, 9, 9, 9, 9, 9, 9);
        for (int l = 8; l < 11; l++) call(l, 3, 2);
        for (int l = 8; l < 11; l++) x.dial(l, l - 6);
        x.tick(1);
        acked = x.link(1, ACKED);
        got = x.link(1, GOT);
        fib = x.link(1, FIB);
        bib = x.link(1, BIB);
        spoiled = x.link(1, SPOILED);
        for (int l = 6; l < 8; l++) x.dial(l, 9);
    }

    /** A unit without a message: so many more are acked, with the FIB of before or another one. */
    private static String unit(int k, boolean other) {
        return text(acked + k, other ? 1 - fib : fib, got, bib);
    }

    /** The two units come as one that asks for all again, and as a second one. */
    private static void goAgain(boolean isNew, int k, boolean other) {
        threeSent(isNew);
        x.tick(2);
        int n = x.told(0) - 2;
        String first = bits(0, n);
        String second = bits(0, n + 1);
        threeSent(isNew);
        turnInto(0, n, first, unit(0, true));
        turnInto(0, n + 1, second, unit(k, other));
        x.tick(2);
        dueLink("three are sent", 0, 3, false);
        x.tick(1);
        dueLink("asked for again", 0, 1, true);
    }

    private static void dueLink(String what, int more, int next, boolean other) {
        due(what + ": acked", x.link(1, ACKED) - acked, more);
        due(what + ": next", x.link(1, NEXT) - acked, next);
        due(what + ": FIB", x.link(1, FIB), other ? 1 - fib : fib);
        due(what + ": BIB", x.link(1, BIB), bib);
    }

    private static void dueAllCome() {
        x.tick(60);
        for (int e = 0; e < 2; e++) {
            due("acked", x.link(e, ACKED), x.link(e, MADE));
            due("next", x.link(e, NEXT), x.link(e, MADE));
            due("got", x.link(1 - e, GOT), x.link(e, MADE));
        }
        for (int l = 2; l < 5; l++) due("line " + l, x.line(l, 1), 5);
        due("line 6: wrong there", x.line(6, 4), 1);
    }

    private static void dueBehind(String what, int k, boolean other, int more, int next,
            boolean turned) {
        for (int i = 0; i < 2; i++) {
            goAgain(i == 0, k, other);
            x.tick(1);
            dueLink(what, more, next, turned);
            dueAllCome();
        }
    }

    static void promise24_theTownThatIsNotNew() {
        threeSent(false);
        due("acked", acked > 0 ? 1 : 0, 1);
        due("BIB", bib, 0);
        due("spoiled", spoiled, 1);
    }

    static void promise24_notAckedTheyGoOnInTurn() {
        dueBehind("no more is acked", 0, true, 0, 2, true);
    }

    static void promise24_askedForOnceMore() {
        dueBehind("from the first one on", 0, false, 0, 1, false);
        dueBehind("from the second one on", 1, false, 1, 2, false);
        dueBehind("from the third one on", 2, false, 2, 3, false);
    }

    static void promise24_ackedUpToHigh() {
        dueBehind("NEXT is not below", 1, true, 1, 2, true);
        dueBehind("NEXT is below", 2, true, 2, 3, true);
        dueBehind("all", 3, true, 3, 3, true);
    }

    static void promise24_aboveHighIsNoMore() {
        dueBehind("FIB is not looked at", 4, false, 0, 2, true);
        dueBehind("far above", 100, false, 0, 2, true);
    }

    static void promise24_unitsThatGoAgain() {
        for (int i = 0; i < 2; i++) {
            goAgain(i == 0, 0, true);
            int n = x.told(0) - 1;
            // The highest circuit is taken first, in the town that is not new by line 15.
            int circuit = i == 0 ? 15 : 14;
            dueText("the first one again", bits(1, n), text(got, bib, acked + 1, 1 - fib,
                    circuit, 1, 0, 2, 2, 2));
            x.tick(1);
            dueText("the second one again", bits(1, n + 1), text(got, bib, acked + 2, 1 - fib,
                    circuit - 1, 1, 0, 2, 2, 3));
        }
    }

    static void promise24_spoiledWhileTheyGoAgain() {
        for (int i = 0; i < 2; i++) {
            threeSent(i == 0);
            x.tick(1);
            int n = x.told(0) - 1;
            String first = bits(0, n);
            threeSent(i == 0);
            turnInto(0, n, first, unit(0, true));
            x.spoil(0, n + 1, 30);
            x.tick(4);
            dueLink("spoiled", 0, 2, true);
            due("one more", x.link(1, SPOILED), spoiled + 1);
            dueAllCome();
        }
    }
}
