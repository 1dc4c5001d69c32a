/**
 * The bounds of 100 and of 200 messages that are not acked (promise 24). In a run of 512 calls
 * hardly so many can be made; here somebody stands between the exchanges and turns every unit into
 * another one, which takes thousands of calls.
 */
public final class LinkWindowTest extends Bench {
    private static final int MADE = 0, ACKED = 1, NEXT = 2, GOT = 3;

    // It goes a tick ahead, to tell which bits the units of that tick will have.
    private static PlainTown plain;
    private static int forged;

    public static void main(String[] args) throws ReflectiveOperationException {
        runAll(LinkWindowTest.class);
    }

    private static void both(int... call) {
        x.ask(call);
        plain.ask(call);
    }

    /** A tick whose two units come as others. */
    private static void tickWith(String from0, String from1) {
        int n = plain.now;
        plain.tick(1);
        comeAs(0, n, from0);
        comeAs(1, n, from1);
        x.tick(1);
    }

    private static void comeAs(int exchange, int n, String unit) {
        int[] sent = plain.ends[exchange].units.get(n);
        for (int k = 0; k < unit.length(); k++) {
            if (sent[k] == unit.charAt(k) - '0') continue;
            x.spoil(exchange, n, k);
            plain.spoils.add(new int[] {exchange, n, k});
        }
    }

    /**
     * Line 0 has taken circuit 0 and hung up: it is CLEARING at exchange 0, where each REL lets a
     * RLC go. Line 8 has an IAM of twelve keys on its way: it is long enough to be turned into
     * anything, and goes again whenever another BIB comes. Nothing comes of what exchange 0 sends.
     */
    private static void windowTown() {
        goBeyondWhatIsPromised();
        town(2, 0);
        plain = new PlainTown(2, 0);
        forged = 0;
        both(CountedTown.KEY, 9);
        both(CountedTown.PLAN, 0, 1, 2, 0, 0);
        both(CountedTown.KEY, 9);
        both(CountedTown.PLAN, 1, 12, 2, 0, 0);
        both(CountedTown.HOOK, 0, 1);
        both(CountedTown.HOOK, 8, 1);
        nothingComes(1);
        both(CountedTown.DIAL, 0, 9);
        nothingComes(1);
        both(CountedTown.HOOK, 0, 0);
        nothingComes(41);
        due("clearing", x.circuit(0, 0), 3);
        due("IAM and REL were made", x.link(0, MADE), 2);
        for (int i = 0; i < 12; i++) both(CountedTown.DIAL, 8, 9);
        nothingComes(11);
    }

    /** Exchange 1 is told another BIB in each tick, so that it sends its IAM again in each. */
    private static String askAgain() {
        return text(0, plain.now % 2, 0, 1);
    }

    private static void nothingComes(int ticks) {
        for (int i = 0; i < ticks; i++) tickWith(askAgain(), text(0, 1, 0, 1));
    }

    /** In each tick exchange 0 gets a REL for circuit 0, the next one behind those that it got. */
    private static void rels(int count, int bsn) {
        for (int i = 0; i < count; i++) {
            forged++;
            tickWith(askAgain(), text(bsn, 1, forged % 128, 1, 0, 4, 7));
        }
    }

    private static void acks(int count, int bsn) {
        acks(count, bsn, 1);
    }

    private static void acks(int count, int bsn, int bib) {
        for (int i = 0; i < count; i++) tickWith(askAgain(), text(bsn, bib, forged % 128, 1));
    }

    private static void dueLink(String what, int made, int acked, int next) {
        due(what + ": made", x.link(0, MADE), made);
        due(what + ": acked", x.link(0, ACKED), acked);
        due(what + ": next", x.link(0, NEXT), next);
    }

    static void promise24_upTo100AheadOfAckedAreSent() {
        windowTown();
        rels(99, 0);
        // The latest two are on their way.
        dueLink("97 came", 99, 0, 99);
        rels(1, 0);
        dueLink("98 came", 100, 0, 100);
        rels(1, 0);
        dueLink("99 came", 101, 0, 100);
        dueText("a unit without a message", bits(0, x.told(0) - 1), text(99, 1, 100, 1));
        rels(20, 0);
        dueLink("119 came", 121, 0, 100);
        due("got", x.link(0, GOT), 119);
    }

    static void promise24_ackedTheNextAreSent() {
        windowTown();
        rels(148, 0);
        dueLink("146 came", 148, 0, 100);
        acks(2, 1);
        dueLink("not acked yet", 150, 0, 100);
        acks(1, 1);
        dueLink("one is acked, one is sent", 150, 1, 101);
        acks(1, 1);
        dueLink("no more", 150, 1, 101);
    }

    static void promise24_bsnIsNotAboveWhatWasSent() {
        windowTown();
        rels(148, 0);
        acks(3, 101);
        dueLink("k 101 of 100 sent", 150, 0, 100);
        acks(3, 100);
        dueLink("k 100 of 100 sent", 150, 100, 101);
    }

    static void promise24_of200NotAckedTheNextIsGone() {
        windowTown();
        rels(200, 0);
        dueLink("198 came", 200, 0, 100);
        rels(1, 0);
        dueLink("199 came", 200, 0, 100);
        rels(20, 0);
        dueLink("219 came", 200, 0, 100);
        due("got all the same", x.link(0, GOT), 219);
    }

    static void promise24_withOneAckedOneMoreIsMade() {
        windowTown();
        rels(210, 0);
        rels(1, 1);
        rels(1, 1);
        dueLink("not acked yet", 200, 0, 100);
        rels(1, 1);
        dueLink("one is acked, one is made", 201, 1, 101);
        rels(5, 1);
        dueLink("again none", 201, 1, 101);
    }

    static void promise24_atTheBoundAllGoAgain() {
        windowTown();
        rels(148, 0);
        acks(2, 0, 0);
        dueLink("not asked yet", 150, 0, 100);
        acks(1, 0, 0);
        dueLink("another BIB: message 0 goes again", 150, 0, 1);
        acks(98, 0, 0);
        dueLink("and those behind it", 150, 0, 99);
        acks(2, 0, 0);
        dueLink("up to the bound", 150, 0, 100);
    }

    static void promise24_nextIsAckedIfItWasBelow() {
        windowTown();
        rels(148, 0);
        acks(3, 0, 0);
        dueLink("message 0 goes again", 150, 0, 1);
        acks(2, 50, 0);
        dueLink("not acked yet", 150, 0, 3);
        acks(1, 50, 0);
        dueLink("messages up to 49 need not go again", 150, 50, 51);
        acks(2, 52, 0);
        dueLink("on it goes", 150, 50, 53);
        acks(1, 52, 0);
        dueLink("NEXT is not below", 150, 52, 54);
    }

    static void promise24_allThatWereMadeAreSentInTheEnd() {
        windowTown();
        rels(210, 0);
        acks(2, 0);
        int acked = 0;
        for (int i = 0; i < 4; i++) {
            acked = Math.min(acked + 60, 200);
            acks(70, acked % 128);
        }
        dueLink("all but gone ones", 200, 200, 200);
    }
}
