/** Lets a unit of exchange 0 come to exchange 1 as another one. */
abstract class Forger extends Bench {
    static final Runnable NOTHING = () -> { };

    /** What a unit is to come as, told what it was sent with. */
    interface Forged {
        String text(int bsn, int bib, int fsn, int fib);
    }

    /**
     * Line 7 sends twelve keys in the tick behind what is done before; that unit comes as another
     * one. It comes in the tick that is the next then. Its bits are learnt from a first town.
     */
    static void forge(int circuits, Runnable before, Forged unit) {
        prepare(circuits, before);
        x.tick(1);
        String sent = bits(0, x.told(0) - 1);
        String due = unit.text(x.link(0, 3) % 128, x.link(0, 5), x.link(0, 2) % 128, x.link(0, 4));
        prepare(circuits, before);
        turnInto(0, x.told(0), sent, due);
        x.tick(2);
    }

    /** The same with another message alone. */
    static void forge(int circuits, Runnable before, int... message) {
        forge(circuits, before, (bsn, bib, fsn, fib) -> text(bsn, bib, fsn, fib, message));
    }

    private static void prepare(int circuits, Runnable before) {
        usualTown(circuits);
        row(0, 12, 2, 0, 0, 9);
        call(7, 9, 9, 9, 9, 9, 9, 9, 9, 9, 9, 9);
        before.run();
        x.dial(7, 9);
    }
}
