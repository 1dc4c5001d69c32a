/** A TelephoneTown that counts its calls, for beyond 512 of them nothing is promised. */
final class CountedTown {
    // The calls by number, for runs that are held as rows of numbers.
    static final int KEY = 0, KEYLESS = 1, PLAN = 2, MEMBER = 3, WAITING = 4, FEATURE = 5;
    static final int FORWARD = 6, TARIFF = 7, CREDIT = 8, HOOK = 9, DIAL = 10, SAY = 11;
    static final int SPOIL = 12, LOSE = 13, TICK = 14, LINE = 15, PARTNER = 16, HEARD = 17;
    static final int CIRCUIT = 18, SPEECH = 19, GROUP = 20, ROOM = 21, LINK = 22, BIT = 23;
    static final int RECORD = 24, TOLD = 25;

    int calls = 0;
    private final TelephoneTown town;

    CountedTown(int circuits, int reserved) {
        town = new TelephoneTown(circuits, reserved);
    }

    /** The call whose number stands first, with what stands behind it. */
    int ask(int... c) {
        switch (c[0]) {
            case KEY: return key(c[1]);
            case KEYLESS: return keyless();
            case PLAN: return plan(c[1], c[2], c[3], c[4], c[5]);
            case MEMBER: return member(c[1], c[2]);
            case WAITING: return waiting(c[1], c[2], c[3]);
            case FEATURE: return feature(c[1], c[2], c[3] != 0);
            case FORWARD: return forward(c[1], c[2]);
            case TARIFF: return tariff(c[1], c[2], c[3], c[4], c[5]);
            case CREDIT: return credit(c[1], c[2]);
            case HOOK: return hook(c[1], c[2] != 0);
            case DIAL: return dial(c[1], c[2]);
            case SAY: return say(c[1], c[2]);
            case SPOIL: return spoil(c[1], c[2], c[3]);
            case LOSE: return lose(c[1], c[2]);
            case TICK: return tick(c[1]);
            default: return askWhatIsTold(c);
        }
    }

    private int askWhatIsTold(int... c) {
        switch (c[0]) {
            case LINE: return line(c[1], c[2]);
            case PARTNER: return partner(c[1]);
            case HEARD: return heard(c[1]);
            case CIRCUIT: return circuit(c[1], c[2]);
            case SPEECH: return speech(c[1], c[2]);
            case GROUP: return group(c[1], c[2], c[3]);
            case ROOM: return room(c[1], c[2]);
            case LINK: return link(c[1], c[2]);
            case BIT: return bit(c[1], c[2], c[3]);
            case RECORD: return record(c[1], c[2]);
            case TOLD: return told(c[1]);
            default: throw new IllegalArgumentException("no call " + c[0]);
        }
    }

    private TelephoneTown counted() {
        calls++;
        return town;
    }

    int key(int k) {
        return counted().key(k);
    }

    int keyless() {
        return counted().keyless();
    }

    int plan(int exchange, int length, int kind, int arg, int zone) {
        return counted().plan(exchange, length, kind, arg, zone);
    }

    int member(int group, int line) {
        return counted().member(group, line);
    }

    int waiting(int exchange, int group, int most) {
        return counted().waiting(exchange, group, most);
    }

    int feature(int line, int what, boolean on) {
        return counted().feature(line, what, on);
    }

    int forward(int line, int when) {
        return counted().forward(line, when);
    }

    int tariff(int zone, int setup, int step, int day, int night) {
        return counted().tariff(zone, setup, step, day, night);
    }

    int credit(int line, int cents) {
        return counted().credit(line, cents);
    }

    int hook(int line, boolean closed) {
        return counted().hook(line, closed);
    }

    int dial(int line, int k) {
        return counted().dial(line, k);
    }

    int say(int line, int v) {
        return counted().say(line, v);
    }

    int spoil(int exchange, int n, int k) {
        return counted().spoil(exchange, n, k);
    }

    int lose(int exchange, int n) {
        return counted().lose(exchange, n);
    }

    int tick(int n) {
        return counted().tick(n);
    }

    int line(int line, int what) {
        return counted().line(line, what);
    }

    int partner(int line) {
        return counted().partner(line);
    }

    int heard(int line) {
        return counted().heard(line);
    }

    int circuit(int exchange, int circuit) {
        return counted().circuit(exchange, circuit);
    }

    int speech(int exchange, int circuit) {
        return counted().speech(exchange, circuit);
    }

    int group(int exchange, int group, int what) {
        return counted().group(exchange, group, what);
    }

    int room(int exchange, int room) {
        return counted().room(exchange, room);
    }

    int link(int exchange, int what) {
        return counted().link(exchange, what);
    }

    int bit(int exchange, int n, int k) {
        return counted().bit(exchange, n, k);
    }

    int record(int i, int what) {
        return counted().record(i, what);
    }

    int told(int what) {
        return counted().told(what);
    }
}
