/**
 * A telephone town of two exchanges: loops, pulses and keys; plans of numbers; calls that are
 * forwarded, wait, ring groups, meet in rooms; circuits between the exchanges, whose messages go
 * over a link of bits and go again when they were spoiled; speech by two laws; charges and credit.
 *
 * <p>All rows are made by the constructor and used again, so that a tick makes no object.
 */
public final class TelephoneTown {
    public static final int NONE = -1, BAD = -2, FULL = -3;

    private static final int EXCHANGES = 2, LINES = 16, LINES_EACH = 8, MOST_CIRCUITS = 16;
    private static final int GROUPS = 3, ROOMS = 2, ROOM_CALLS = 8, MOST_WAITING = 10;
    private static final int KEY_KINDS = 12, MOST_KEYS = 12, MOST_DIALLED = 20, MOST_ROWS = 24;
    private static final int ZONES = 4, TARIFF_PARTS = 4, MOST_RECORDS = 300, RECORD_PARTS = 5;
    private static final int MOST_FORWARDS = 5, LOUDEST = 8000, MOST_CREDIT = 1000000;
    private static final int MOST_TROUBLES = 300, FARTHEST_UNIT = 100000, UNIT_BITS = 256;
    private static final int MOST_TICKS = 1000, MOST_NOW = 10000000;

    // At most 48 calls live at once, for each has its own line or its own end of a circuit as
    // side A; a tick makes at most 18 more before those that are over are swept away.
    private static final int MOST_CALLS = 72;

    private static final int OVER = -1, DIALLING = 0, SENT = 1, RINGING = 2, TALK = 3, WAITING = 4;
    private static final int IDLE = 0, OUT = 1, IN = 2, CLEARING = 3;
    private static final int TO_LINE = 0, TO_FAR = 1, TO_FAR_RANKED = 2, TO_GROUP = 3, TO_ROOM = 4;
    private static final int MORE = -1, WRONG = -2;
    private static final int ALWAYS = 0, WHEN_BUSY = 1, WITHOUT_ANSWER = 2;
    private static final int NOT_DISTURB = 0, BARRED = 1, HAS_WAITING = 2;

    private static final int WRONG_KEYS = 1, BUSY = 2, NO_CIRCUIT = 3, NO_ANSWER = 4;
    private static final int NO_CREDIT = 5, NO_REPLY = 6, HUNG_UP = 7, REFUSED = 8;

    private static final int CALM = 0, LIFT = 1, HANG = 2, FLASH = 3;
    private static final int HANG_AT = 40, FLASH_AT = 10, KEY_AT = 20;
    private static final int DIAL_TIME = 500, SENT_TIME = 500, FORWARD_TIME = 300;
    private static final int RING_TIME = 600, WAIT_TIME = 3000;

    // What became of placing a call: a cause (above 0), or one of these.
    private static final int PLACED = 0, BY_ROW = -1, FORWARDED = -2, ANSWERED = -3;
    private static final int NOBODY = 0, SIDE_A = 1, SIDE_B = 2;

    private static final int IAM = 1, ACM = 2, ANM = 3, REL = 4, RLC = 5;
    private static final long NO_MESSAGE = -1L, MALFORMED = 0L;
    private static final int MESSAGES = 200, WINDOW = 100, UNITS = 64;
    private static final int COMES = 0, SPOILED = 1, LOST = 2;
    private static final int SILENCE = 213;

    // Keys are held in one number: four bits for each, the first one lowest, and from bit 48 on
    // how many they are.
    private static final long NO_KEYS = 0L;
    private static final int COUNT_SHIFT = 48;
    private static final long KEY_BITS = (1L << COUNT_SHIFT) - 1;

    private final int circuits;
    private final int reserved;
    private final Exchange[] exchanges = new Exchange[EXCHANGES];
    private final Line[] lines = new Line[LINES];
    private final Call[] calls = new Call[MOST_CALLS];
    private final Ledger ledger = new Ledger();
    private final Troubles spoils = new Troubles();
    private final Troubles losses = new Troubles();
    private final Wire wire = new Wire();
    private long keys = NO_KEYS;
    private int now;
    private int callsHeld;
    private int callsMade;
    private int callsLive;

    public TelephoneTown(int circuits, int reserved) {
        this.circuits = circuits < 1 ? 1 : circuits > MOST_CIRCUITS ? MOST_CIRCUITS : circuits;
        this.reserved = reserved < 0 ? 0 : reserved > this.circuits ? this.circuits : reserved;
        for (int i = 0; i < EXCHANGES; i++) {
            exchanges[i] = new Exchange(i, this.circuits);
        }
        for (int i = 0; i < this.circuits; i++) {
            exchanges[0].trunks[i].far = exchanges[1].trunks[i];
            exchanges[1].trunks[i].far = exchanges[0].trunks[i];
        }
        for (int i = 0; i < LINES; i++) {
            lines[i] = new Line(i);
        }
        for (int i = 0; i < MOST_CALLS; i++) {
            calls[i] = new Call();
        }
    }

    // ---- what is set

    public int key(int k) {
        if (!isWithin(k, 0, KEY_KINDS - 1)) {
            return BAD;
        }
        if (countOf(keys) >= MOST_KEYS) {
            return FULL;
        }
        keys = withKey(keys, k);
        return countOf(keys);
    }

    public int keyless() {
        int count = countOf(keys);
        keys = NO_KEYS;
        return count;
    }

    public int plan(int exchange, int length, int kind, int arg, int zone) {
        int count = countOf(keys);
        if (!isExchange(exchange) || count == 0 || !isWithin(length, count, MOST_KEYS)
                || !isWithin(zone, 0, ZONES - 1) || !isArg(exchange, length, kind, arg)) {
            return BAD;
        }
        Exchange home = exchanges[exchange];
        if (home.hasPrefix(keys)) {
            return BAD;
        }
        if (home.rowCount >= MOST_ROWS) {
            return FULL;
        }
        home.rows[home.rowCount] = new Row(keys, length, kind, arg, zone);
        home.rowCount++;
        keys = NO_KEYS;
        return home.rowCount - 1;
    }

    public int member(int group, int line) {
        if (!isWithin(group, 0, GROUPS - 1) || !isLine(line)) {
            return BAD;
        }
        Group g = exchanges[line / LINES_EACH].groups[group];
        if (g.memberCount >= LINES_EACH || g.has(lines[line])) {
            return BAD;
        }
        g.members[g.memberCount] = lines[line];
        g.memberCount++;
        return g.memberCount;
    }

    public int waiting(int exchange, int group, int most) {
        if (!isExchange(exchange) || !isWithin(group, 0, GROUPS - 1)
                || !isWithin(most, 0, MOST_WAITING)) {
            return BAD;
        }
        Group g = exchanges[exchange].groups[group];
        int before = g.most;
        g.most = most;
        return before;
    }

    public int feature(int line, int what, boolean on) {
        if (!isLine(line) || !isWithin(what, 0, HAS_WAITING)) {
            return BAD;
        }
        boolean before = lines[line].features[what];
        lines[line].features[what] = on;
        return before ? 1 : 0;
    }

    public int forward(int line, int when) {
        if (!isLine(line) || !isWithin(when, 0, WITHOUT_ANSWER)) {
            return BAD;
        }
        lines[line].forwards[when] = keys;
        keys = NO_KEYS;
        return 1;
    }

    public int tariff(int zone, int setup, int step, int day, int night) {
        if (!isWithin(zone, 0, ZONES - 1) || !isWithin(setup, 0, 10000)
                || !isWithin(step, 1, 1000) || !isWithin(day, 0, 200)
                || !isWithin(night, 0, 200)) {
            return BAD;
        }
        ledger.setTariff(zone, setup, step, day, night);
        return 1;
    }

    public int credit(int line, int cents) {
        if (!isLine(line) || !isWithin(cents, NONE, MOST_CREDIT)) {
            return BAD;
        }
        int before = lines[line].credit;
        lines[line].credit = cents;
        return before;
    }

    public int hook(int line, boolean closed) {
        if (!isLine(line)) {
            return BAD;
        }
        boolean before = lines[line].closed;
        lines[line].closed = closed;
        return before ? 1 : 0;
    }

    public int dial(int line, int k) {
        if (!isLine(line) || !isWithin(k, 0, KEY_KINDS - 1) || !lines[line].lifted) {
            return BAD;
        }
        Line l = lines[line];
        if (l.dialledCount >= MOST_DIALLED) {
            return FULL;
        }
        l.dialled[l.dialledCount] = (byte) k;
        l.dialledCount++;
        return l.dialledCount;
    }

    public int say(int line, int v) {
        if (!isLine(line) || !isWithin(v, -LOUDEST, LOUDEST)) {
            return BAD;
        }
        int before = lines[line].says;
        lines[line].says = v;
        return before;
    }

    public int spoil(int exchange, int n, int k) {
        if (!isExchange(exchange) || !isUnitToCome(n) || !isWithin(k, 0, UNIT_BITS - 1)) {
            return BAD;
        }
        return spoils.add(exchange, n, k);
    }

    public int lose(int exchange, int n) {
        if (!isExchange(exchange) || !isUnitToCome(n)) {
            return BAD;
        }
        return losses.add(exchange, n, 0);
    }

    public int tick(int n) {
        if (!isWithin(n, 1, MOST_TICKS)) {
            return BAD;
        }
        if (now > MOST_NOW - n) {
            return FULL;
        }
        for (int i = 0; i < n; i++) {
            takeUnits();
            watchLines();
            checkTimes();
            serveGroups();
            carrySpeech();
            sendUnits();
            sweepCalls();
            now++;
        }
        return now;
    }

    // ---- what is told

    public int line(int line, int what) {
        if (!isLine(line)) {
            return BAD;
        }
        Line l = lines[line];
        switch (what) {
            case 0: return l.lifted ? 1 : 0;
            case 1: return l.sound();
            case 2: return l.active == null ? NONE : l.active.state;
            case 3: return l.other == null ? 0 : l.other.state == RINGING ? 1 : 2;
            case 4: return l.cause;
            case 5: return l.away ? 1 : 0;
            case 6: return l.credit;
            case 7: return l.active == null ? 0 : countOf(l.active.keys);
            case 8: return l.dialledCount;
            default: return BAD;
        }
    }

    public int partner(int line) {
        if (!isLine(line)) {
            return BAD;
        }
        Call call = lines[line].active;
        if (call == null || call.state != TALK) {
            return NONE;
        }
        if (call.lineA != lines[line]) {
            return sideNumber(call.lineA, call.trunkA);
        }
        return call.room != NONE ? 200 + call.room : sideNumber(call.lineB, call.trunkB);
    }

    public int heard(int line) {
        return isLine(line) ? lines[line].hears : BAD;
    }

    public int circuit(int exchange, int circuit) {
        return isTrunk(exchange, circuit) ? exchanges[exchange].trunks[circuit].state : BAD;
    }

    public int speech(int exchange, int circuit) {
        return isTrunk(exchange, circuit) ? exchanges[exchange].trunks[circuit].put : BAD;
    }

    public int group(int exchange, int group, int what) {
        if (!isExchange(exchange) || !isWithin(group, 0, GROUPS - 1) || !isWithin(what, 0, 1)) {
            return BAD;
        }
        Group g = exchanges[exchange].groups[group];
        return what == 0 ? g.waits : g.memberCount;
    }

    public int room(int exchange, int room) {
        if (!isExchange(exchange) || !isWithin(room, 0, ROOMS - 1)) {
            return BAD;
        }
        return exchanges[exchange].roomCalls[room];
    }

    public int link(int exchange, int what) {
        if (!isExchange(exchange)) {
            return BAD;
        }
        Link l = exchanges[exchange].link;
        switch (what) {
            case 0: return l.made;
            case 1: return l.acked;
            case 2: return l.next;
            case 3: return l.got;
            case 4: return l.fib;
            case 5: return l.bib;
            case 6: return l.spoiled;
            default: return BAD;
        }
    }

    public int bit(int exchange, int n, int k) {
        if (!isExchange(exchange)) {
            return BAD;
        }
        if (n < 0 || n >= now || n < now - UNITS || k < 0) {
            return NONE;
        }
        wire.write(exchanges[exchange].link.sent[n % UNITS]);
        return k < wire.count ? wire.bits[k] : NONE;
    }

    public int record(int i, int what) {
        if (!isWithin(what, 0, RECORD_PARTS - 1)) {
            return BAD;
        }
        return ledger.read(i, what);
    }

    public int told(int what) {
        switch (what) {
            case 0: return now;
            case 1: return callsMade;
            case 2: return callsLive;
            case 3: return ledger.made;
            case 4: return idleAtBothEnds();
            default: return BAD;
        }
    }

    // ---- which numbers are good

    private static boolean isWithin(int v, int low, int high) {
        return v >= low && v <= high;
    }

    private static boolean isExchange(int exchange) {
        return exchange >= 0 && exchange < EXCHANGES;
    }

    private static boolean isLine(int line) {
        return line >= 0 && line < LINES;
    }

    private boolean isTrunk(int exchange, int circuit) {
        return isExchange(exchange) && circuit >= 0 && circuit < circuits;
    }

    private boolean isUnitToCome(int n) {
        return n >= now && n <= now + FARTHEST_UNIT;
    }

    private static boolean isArg(int exchange, int length, int kind, int arg) {
        switch (kind) {
            case TO_LINE: return isLine(arg) && arg / LINES_EACH == exchange;
            case TO_FAR:
            case TO_FAR_RANKED: return isWithin(arg, 0, length);
            case TO_GROUP: return isWithin(arg, 0, GROUPS - 1);
            case TO_ROOM: return isWithin(arg, 0, ROOMS - 1);
            default: return false;
        }
    }

    private static int sideNumber(Line line, Trunk trunk) {
        if (line != null) {
            return line.number;
        }
        return trunk != null ? 100 + trunk.number : NONE;
    }

    private int idleAtBothEnds() {
        int idle = 0;
        for (int i = 0; i < circuits; i++) {
            if (exchanges[0].trunks[i].state == IDLE && exchanges[1].trunks[i].state == IDLE) {
                idle++;
            }
        }
        return idle;
    }

    // ---- keys in one number

    private static int countOf(long keys) {
        return (int) (keys >> COUNT_SHIFT);
    }

    private static long withKey(long keys, int k) {
        int count = countOf(keys);
        return (keys & KEY_BITS) | ((long) k << (4 * count)) | ((long) (count + 1) << COUNT_SHIFT);
    }

    private static long withoutFirst(long keys, int n) {
        int count = countOf(keys);
        if (n >= count) {
            return NO_KEYS;
        }
        return ((keys & KEY_BITS) >> (4 * n)) | ((long) (count - n) << COUNT_SHIFT);
    }

    private static boolean beginsWith(long keys, long start) {
        int count = (int) (start >> COUNT_SHIFT);
        return keys >> COUNT_SHIFT >= count && ((keys ^ start) & ((1L << (4 * count)) - 1)) == 0;
    }

    // ---- the units that come, and their messages

    private void takeUnits() {
        for (int e = 0; e < EXCHANGES; e++) {
            Unit unit = exchanges[1 - e].link.coming[now & 1];
            long message = exchanges[e].link.take(unit);
            if (message == NO_MESSAGE || message == MALFORMED) {
                continue;
            }
            int number = Unit.circuitOf(message);
            if (number >= circuits) {
                continue;
            }
            Trunk trunk = exchanges[e].trunks[number];
            if (Unit.typeOf(message) == IAM) {
                takeIam(exchanges[e], trunk, message);
            } else {
                takeSignal(exchanges[e], trunk, message);
            }
        }
    }

    private void takeIam(Exchange home, Trunk trunk, long message) {
        if (trunk.state == OUT && trunk.isSent() && trunk.number % 2 != home.number) {
            Call older = trunk.call;
            trunk.call = null;
            older.trunkB = null;
            place(older, BY_ROW);
        } else if (trunk.state != IDLE) {
            return;
        }
        trunk.state = IN;
        Call call = makeCall(home);
        if (call == null) {
            return;
        }
        trunk.call = call;
        call.trunkA = trunk;
        call.forwards = Unit.forwardsOf(message);
        call.keys = Unit.keysOf(message);
        int found = home.analyse(call.keys);
        if (found < 0) {
            end(call, WRONG_KEYS, NOBODY);
            return;
        }
        call.row = home.rows[found];
        place(call, BY_ROW);
    }

    private void takeSignal(Exchange home, Trunk trunk, long message) {
        Call call = trunk.call;
        switch (Unit.typeOf(message)) {
            case ACM:
                if (trunk.state == OUT && trunk.isSent()) {
                    enter(call, RINGING);
                    announce(call);
                }
                break;
            case ANM:
                if (trunk.state == OUT && call != null
                        && (call.state == SENT || call.state == RINGING)) {
                    endIf(call, answer(call));
                }
                break;
            case REL:
                takeRelease(home, trunk, Unit.causeOf(message));
                break;
            case RLC:
                if (trunk.state == CLEARING) {
                    trunk.state = IDLE;
                }
                break;
            default:
                break;
        }
    }

    private void takeRelease(Exchange home, Trunk trunk, int cause) {
        if (trunk.state == IDLE) {
            return;
        }
        home.link.post(Unit.pack(RLC, trunk.number, 0L));
        if (trunk.state == CLEARING) {
            return;
        }
        Call call = trunk.call;
        trunk.state = IDLE;
        trunk.call = null;
        if (call != null) {
            end(call, cause, call.trunkA == trunk ? SIDE_A : SIDE_B);
        }
    }

    // ---- lines

    private void watchLines() {
        for (int i = 0; i < LINES; i++) {
            Line line = lines[i];
            int event = line.lookAtLoop();
            if (event == LIFT) {
                lift(line);
                continue;
            }
            if (event == HANG) {
                hang(line);
                continue;
            }
            if (event == FLASH) {
                flash(line);
            }
            int k = line.keyOfThisTick();
            if (k != NONE) {
                takeKey(line, k);
            }
        }
    }

    private void lift(Line line) {
        line.away = false;
        Call call = line.rungBy;
        if (call != null) {
            line.rungBy = null;
            line.active = call;
            endIf(call, answer(call));
            return;
        }
        call = makeCall(exchanges[line.number / LINES_EACH]);
        if (call != null) {
            call.lineA = line;
            line.active = call;
        }
    }

    private void hang(Line line) {
        Call first = line.active;
        Call second = line.other;
        line.active = null;
        line.other = null;
        if (first != null) {
            end(first, HUNG_UP, first.lineA == line ? SIDE_A : SIDE_B);
        }
        if (second != null) {
            end(second, HUNG_UP, second.lineA == line ? SIDE_A : SIDE_B);
        }
        line.tone = 0;
        line.since = now;
    }

    private void flash(Line line) {
        Call call = line.other;
        if (call == null) {
            return;
        }
        line.other = line.active;
        line.active = call;
        if (call.state == RINGING) {
            endIf(call, answer(call));
        }
    }

    private void takeKey(Line line, int k) {
        Call call = line.active;
        if (call == null || call.state != DIALLING || countOf(call.keys) >= MOST_KEYS) {
            return;
        }
        call.keys = withKey(call.keys, k);
        call.from = now;
        int found = call.home.analyse(call.keys);
        if (found == WRONG) {
            end(call, WRONG_KEYS, NOBODY);
        } else if (found != MORE) {
            call.row = call.home.rows[found];
            call.zone = call.row.zone;
            place(call, BY_ROW);
        }
    }

    // ---- calls are made, placed, answered and ended

    private Call makeCall(Exchange home) {
        if (callsHeld >= MOST_CALLS) {
            return null;
        }
        Call call = calls[callsHeld];
        callsHeld++;
        callsMade++;
        callsLive++;
        call.begin(home, now);
        return call;
    }

    private void sweepCalls() {
        if (callsHeld == callsLive) {
            return;
        }
        int kept = 0;
        for (int i = 0; i < callsHeld; i++) {
            Call call = calls[i];
            if (call.state != OVER) {
                calls[i] = calls[kept];
                calls[kept] = call;
                kept++;
            }
        }
        callsHeld = kept;
    }

    private void enter(Call call, int state) {
        call.state = state;
        call.from = now;
    }

    /** Places a call BY_ROW, or FORWARDED to its keys, until it stands or has failed. */
    private void place(Call call, int start) {
        int outcome = start;
        for (int i = 0; i < 2 * (MOST_FORWARDS + 2); i++) {
            Row row = call.row;
            if (outcome == FORWARDED) {
                outcome = findRowAnew(call);
            } else if (outcome != BY_ROW || row == null) {
                break;
            } else if (row.kind == TO_LINE) {
                outcome = placeToLine(call, lines[row.arg]);
            } else if (row.kind == TO_GROUP) {
                outcome = placeToGroup(call, call.home.groups[row.arg]);
            } else if (row.kind == TO_ROOM) {
                outcome = placeToRoom(call, row.arg);
            } else {
                outcome = placeFar(call, row);
            }
        }
        if (outcome == ANSWERED) {
            outcome = answer(call);
        } else if (outcome == PLACED && call.state != SENT) {
            announce(call);
        }
        if (outcome > 0) {
            end(call, outcome, NOBODY);
        }
    }

    private int findRowAnew(Call call) {
        call.forwards++;
        if (call.forwards > MOST_FORWARDS) {
            return BUSY;
        }
        int found = call.home.analyse(call.keys);
        if (found < 0) {
            return WRONG_KEYS;
        }
        call.row = call.home.rows[found];
        return BY_ROW;
    }

    private int placeFar(Call call, Row row) {
        boolean ranked = row.kind == TO_FAR_RANKED;
        if (!ranked && call.lineA != null && call.lineA.features[BARRED]) {
            return REFUSED;
        }
        Trunk trunk = call.home.findIdle(ranked ? 0 : reserved);
        if (trunk == null) {
            return NO_CIRCUIT;
        }
        trunk.state = OUT;
        trunk.call = call;
        call.trunkB = trunk;
        enter(call, SENT);
        long content = Unit.packIam(call.forwards, withoutFirst(call.keys, row.arg));
        call.home.link.post(Unit.pack(IAM, trunk.number, content));
        return PLACED;
    }

    private int placeToLine(Call call, Line line) {
        if (line.features[NOT_DISTURB]) {
            return REFUSED;
        }
        if (line.forwards[ALWAYS] != NO_KEYS) {
            call.keys = line.forwards[ALWAYS];
            return FORWARDED;
        }
        call.group = null;
        if (line.isFree()) {
            ring(call, line);
            return PLACED;
        }
        if (line.canTakeOther()) {
            line.other = call;
            call.lineB = line;
            enter(call, RINGING);
            return PLACED;
        }
        if (line.forwards[WHEN_BUSY] != NO_KEYS) {
            call.keys = line.forwards[WHEN_BUSY];
            return FORWARDED;
        }
        return BUSY;
    }

    private int placeToGroup(Call call, Group group) {
        call.group = group;
        Line line = group.waits == 0 ? group.nextMember() : null;
        if (line != null) {
            ring(call, line);
            return PLACED;
        }
        if (group.waits >= group.most) {
            return BUSY;
        }
        enter(call, WAITING);
        group.letWait(call, false);
        return PLACED;
    }

    private int placeToRoom(Call call, int room) {
        if (call.home.roomCalls[room] >= ROOM_CALLS) {
            return BUSY;
        }
        call.room = room;
        call.home.roomCalls[room]++;
        return ANSWERED;
    }

    private void ring(Call call, Line line) {
        line.rungBy = call;
        call.lineB = line;
        enter(call, RINGING);
    }

    private void ringNoMore(Call call, Line line) {
        if (line.rungBy == call) {
            line.rungBy = null;
            line.since = now;
        }
        if (line.other == call) {
            line.other = null;
        }
    }

    /** Tells a circuit that is side A once that its call rings, waits or talks. */
    private void announce(Call call) {
        if (call.trunkA != null && !call.announced) {
            call.announced = true;
            call.home.link.post(Unit.pack(ACM, call.trunkA.number, 0L));
        }
    }

    /** Answers the cause by which the call is over at once, or 0. */
    private int answer(Call call) {
        enter(call, TALK);
        announce(call);
        if (call.trunkA != null) {
            call.home.link.post(Unit.pack(ANM, call.trunkA.number, 0L));
            return PLACED;
        }
        return ledger.charge(call, true, now) ? PLACED : NO_CREDIT;
    }

    private void endIf(Call call, int cause) {
        if (cause > 0) {
            end(call, cause, NOBODY);
        }
    }

    private void end(Call call, int cause, int by) {
        if (by != SIDE_A) {
            tellEnd(call, call.lineA, call.trunkA, cause);
        }
        if (by != SIDE_B) {
            tellEnd(call, call.lineB, call.trunkB, cause);
        }
        if (call.state == WAITING && call.group != null) {
            call.group.waits--;
        }
        if (call.room != NONE) {
            call.home.roomCalls[call.room]--;
        }
        if (call.state == TALK && call.lineA != null) {
            ledger.write(call, now);
        }
        call.state = OVER;
        callsLive--;
    }

    private void tellEnd(Call call, Line line, Trunk trunk, int cause) {
        if (line != null) {
            ringNoMore(call, line);
            if (line.active == call) {
                line.active = null;
                line.cause = cause;
                line.tone = cause == WRONG_KEYS ? 4 : 3;
            }
        }
        if (trunk != null) {
            trunk.state = CLEARING;
            trunk.call = null;
            call.home.link.post(Unit.pack(REL, trunk.number, (long) cause));
        }
    }

    // ---- times and groups

    private void checkTimes() {
        for (int i = 0; i < callsHeld; i++) {
            Call call = calls[i];
            if (call.state == RINGING && call.lineB != null) {
                checkRinging(call, call.lineB, now - call.from);
            } else {
                endIf(call, causeByTime(call, now - call.from));
            }
        }
    }

    private int causeByTime(Call call, int t) {
        switch (call.state) {
            case DIALLING: return t == DIAL_TIME ? WRONG_KEYS : 0;
            case SENT: return t == SENT_TIME ? NO_REPLY : 0;
            case WAITING: return t == WAIT_TIME ? NO_ANSWER : 0;
            case TALK: return !ledger.isStep(call, t) || ledger.charge(call, false, now)
                    ? 0 : NO_CREDIT;
            default: return 0;
        }
    }

    private void checkRinging(Call call, Line line, int t) {
        if (call.group != null) {
            if (t == FORWARD_TIME) {
                ringNoMore(call, line);
                line.away = true;
                call.lineB = null;
                enter(call, WAITING);
                call.group.letWait(call, true);
            }
        } else if (t == RING_TIME) {
            end(call, NO_ANSWER, NOBODY);
        } else if (t == FORWARD_TIME && line.forwards[WITHOUT_ANSWER] != NO_KEYS) {
            ringNoMore(call, line);
            call.lineB = null;
            call.keys = line.forwards[WITHOUT_ANSWER];
            place(call, FORWARDED);
        }
    }

    private void serveGroups() {
        for (int i = 0; i < EXCHANGES * GROUPS; i++) {
            Group group = exchanges[i / GROUPS].groups[i % GROUPS];
            for (int j = 0; j < LINES_EACH && group.waits > 0; j++) {
                Line line = group.nextMember();
                Call call = firstWaiting(group);
                if (line == null || call == null) {
                    break;
                }
                group.waits--;
                ring(call, line);
            }
        }
    }

    private Call firstWaiting(Group group) {
        Call first = null;
        for (int i = 0; i < callsHeld; i++) {
            Call call = calls[i];
            if (call.state == WAITING && call.group == group
                    && (first == null || call.turn < first.turn)) {
                first = call;
            }
        }
        return first;
    }

    // ---- speech

    private void carrySpeech() {
        for (int i = 0; i < LINES; i++) {
            lines[i].hears = 0;
        }
        for (int e = 0; e < EXCHANGES; e++) {
            exchanges[e].hush();
        }
        for (int i = 0; i < callsHeld; i++) {
            Call call = calls[i];
            if (call.state == TALK && call.room != NONE) {
                call.home.roomSums[call.room] += given(call, call.lineA, call.trunkA);
            }
        }
        for (int i = 0; i < callsHeld; i++) {
            if (calls[i].state == TALK) {
                carryBetweenSides(calls[i]);
            }
        }
    }

    private static void carryBetweenSides(Call call) {
        int fromA = given(call, call.lineA, call.trunkA);
        if (call.room != NONE) {
            int sum = call.home.roomSums[call.room] - fromA;
            int loud = sum > LOUDEST ? LOUDEST : sum < -LOUDEST ? -LOUDEST : sum;
            hand(call, call.lineA, call.trunkA, loud);
            return;
        }
        hand(call, call.lineA, call.trunkA, given(call, call.lineB, call.trunkB));
        hand(call, call.lineB, call.trunkB, fromA);
    }

    private static int given(Call call, Line line, Trunk trunk) {
        if (line != null) {
            return line.active == call ? asHeard(line.number / LINES_EACH, line.says) : 0;
        }
        return trunk != null && trunk.far != null ? fromLaw0(trunk.far.before) : 0;
    }

    private static void hand(Call call, Line line, Trunk trunk, int v) {
        if (line != null && line.active == call) {
            line.hears = asHeard(line.number / LINES_EACH, v);
        }
        if (trunk != null) {
            trunk.put = byLaw0(v);
        }
    }

    private static int asHeard(int exchange, int v) {
        return exchange == 0 ? fromLaw0(byLaw0(v)) : fromLaw1(byLaw1(v));
    }

    private static int byLaw0(int v) {
        int p = (v < 0 ? -v : v) / 2;
        int q = 0;
        while (q < 7 && p >> (q + 5) != 0) {
            q++;
        }
        int m = q == 0 ? p / 2 : (p >> q) & 15;
        return ((v < 0 ? 0 : 128) + 16 * q + m) ^ 85;
    }

    private static int fromLaw0(int b) {
        int u = b ^ 85;
        int q = (u / 16) & 7;
        int m = u & 15;
        int size = q == 0 ? 2 * (2 * m + 1) : 2 * ((2 * m + 33) << (q - 1));
        return u < 128 ? -size : size;
    }

    private static int byLaw1(int v) {
        int size = v < 0 ? -v : v;
        int p = (size < 8158 ? size : 8158) + 33;
        int q = 0;
        while (q < 7 && p >> (q + 6) != 0) {
            q++;
        }
        return 255 - (v < 0 ? 128 : 0) - 16 * q - ((p >> (q + 1)) & 15);
    }

    private static int fromLaw1(int b) {
        int u = 255 - b;
        int q = (u / 16) & 7;
        int size = ((2 * (u & 15) + 33) << q) - 33;
        return u > 127 ? -size : size;
    }

    // ---- the units that go

    private void sendUnits() {
        for (int e = 0; e < EXCHANGES; e++) {
            Link link = exchanges[e].link;
            Unit unit = link.sent[now % UNITS];
            link.fill(unit);
            Unit coming = link.coming[now & 1];
            coming.copyOf(unit);
            if (spoils.concern(e, now)) {
                wire.write(unit);
                spoils.turn(e, now, wire);
                spoils.forget(e, now);
                coming.fate = wire.read(coming, circuits) ? COMES : SPOILED;
            }
            if (losses.concern(e, now)) {
                losses.forget(e, now);
                coming.fate = LOST;
            }
        }
    }

    /** A row of a plan. */
    private static final class Row {
        final long prefix;
        final int length;
        final int kind;
        final int arg;
        final int zone;

        Row(long prefix, int length, int kind, int arg, int zone) {
            this.prefix = prefix;
            this.length = length;
            this.kind = kind;
            this.arg = arg;
            this.zone = zone;
        }
    }

    private static final class Line {
        final int number;
        final boolean[] features = new boolean[HAS_WAITING + 1];
        final long[] forwards = new long[WITHOUT_ANSWER + 1];
        final byte[] dialled = new byte[MOST_DIALLED];
        int dialledCount;
        boolean closed;
        boolean lifted;
        boolean away;
        int opened;
        int quiet;
        int pulses;
        Call active;
        Call other;
        Call rungBy;
        int cause;
        int tone;
        int since;
        int credit = NONE;
        int says;
        int hears;

        Line(int number) {
            this.number = number;
        }

        boolean isFree() {
            return !lifted && rungBy == null;
        }

        boolean canTakeOther() {
            return features[HAS_WAITING] && active != null && active.state == TALK
                    && other == null;
        }

        /** Looks at the loop for one tick: CALM, LIFT, HANG or FLASH. */
        int lookAtLoop() {
            if (!lifted) {
                return closed ? change(true, LIFT) : CALM;
            }
            if (!closed) {
                opened++;
                return opened >= HANG_AT ? change(false, HANG) : CALM;
            }
            int length = opened;
            opened = 0;
            if (length >= FLASH_AT) {
                pulses = 0;
                return FLASH;
            }
            if (length > 0) {
                pulses++;
                quiet = 0;
            }
            return CALM;
        }

        private int change(boolean up, int event) {
            lifted = up;
            opened = 0;
            quiet = 0;
            pulses = 0;
            dialledCount = 0;
            return event;
        }

        /** The key that comes in this tick, of pulses or of those that wait, or NONE. */
        int keyOfThisTick() {
            if (!lifted || !closed) {
                return NONE;
            }
            if (pulses > 0) {
                quiet++;
                if (quiet < KEY_AT) {
                    return NONE;
                }
                int count = pulses;
                pulses = 0;
                return count <= 10 ? count % 10 : NONE;
            }
            if (dialledCount == 0) {
                return NONE;
            }
            int k = dialled[0];
            dialledCount--;
            for (int i = 0; i < dialledCount; i++) {
                dialled[i] = dialled[i + 1];
            }
            return k;
        }

        int sound() {
            if (!lifted) {
                return rungBy != null ? 5 : 0;
            }
            if (active == null) {
                return tone;
            }
            switch (active.state) {
                case DIALLING: return active.keys == NO_KEYS ? 1 : 0;
                case RINGING: return 2;
                case WAITING: return 6;
                case TALK: return other != null && other.state == RINGING ? 8 : 7;
                default: return 0;
            }
        }
    }

    /** One exchange's end of a circuit. */
    private static final class Trunk {
        final int number;
        Trunk far;
        int state = IDLE;
        Call call;
        int put = SILENCE;
        int before = SILENCE;

        Trunk(int number) {
            this.number = number;
        }

        boolean isSent() {
            return call != null && call.state == SENT;
        }
    }

    private static final class Group {
        final Line[] members = new Line[LINES_EACH];
        int memberCount;
        int most;
        int waits;
        // Turns of those that wait count up behind the last and down ahead of the first.
        int firstTurn = 1;
        int lastTurn = 0;

        boolean has(Line line) {
            for (int i = 0; i < memberCount; i++) {
                if (members[i] == line) {
                    return true;
                }
            }
            return false;
        }

        Line nextMember() {
            Line next = null;
            for (int i = 0; i < memberCount; i++) {
                Line line = members[i];
                if (line.isFree() && !line.away && (next == null || line.since < next.since)) {
                    next = line;
                }
            }
            return next;
        }

        void letWait(Call call, boolean aheadOfAll) {
            if (aheadOfAll) {
                firstTurn--;
                call.turn = firstTurn;
            } else {
                lastTurn++;
                call.turn = lastTurn;
            }
            waits++;
        }
    }

    private static final class Call {
        Exchange home;
        Line lineA;
        Trunk trunkA;
        Line lineB;
        Trunk trunkB;
        // The group for which it waits or rings its line B.
        Group group;
        int room;
        Row row;
        long keys;
        int state = OVER;
        // When the state began, the latest key came, or the ringing of line B began.
        int from;
        int zone;
        int forwards;
        int cents;
        int turn;
        boolean announced;

        void begin(Exchange exchange, int now) {
            home = exchange;
            lineA = null;
            trunkA = null;
            lineB = null;
            trunkB = null;
            group = null;
            room = NONE;
            row = null;
            keys = NO_KEYS;
            state = DIALLING;
            from = now;
            zone = 0;
            forwards = 0;
            cents = 0;
            turn = 0;
            announced = false;
        }
    }

    private static final class Exchange {
        final int number;
        final Trunk[] trunks;
        final Group[] groups = new Group[GROUPS];
        final Row[] rows = new Row[MOST_ROWS];
        int rowCount;
        final int[] roomCalls = new int[ROOMS];
        final int[] roomSums = new int[ROOMS];
        final Link link = new Link();

        Exchange(int number, int circuits) {
            this.number = number;
            trunks = new Trunk[circuits];
            for (int i = 0; i < circuits; i++) {
                trunks[i] = new Trunk(i);
            }
            for (int i = 0; i < GROUPS; i++) {
                groups[i] = new Group();
            }
        }

        boolean hasPrefix(long prefix) {
            for (int i = 0; i < rowCount; i++) {
                if (rows[i].prefix == prefix) {
                    return true;
                }
            }
            return false;
        }

        /** The number of the row by which the keys are whole, or MORE, or WRONG. */
        int analyse(long keys) {
            int best = WRONG;
            int longest = 0;
            int count = countOf(keys);
            for (int i = 0; i < rowCount; i++) {
                long prefix = rows[i].prefix;
                int size = countOf(prefix);
                if (size > count && beginsWith(prefix, keys)) {
                    return MORE;
                }
                if (size > longest && beginsWith(keys, prefix)) {
                    best = i;
                    longest = size;
                }
            }
            if (best == WRONG || rows[best].length < count) {
                return WRONG;
            }
            return rows[best].length > count ? MORE : best;
        }

        /** The idle circuit to take, lowest first in exchange 0, if more than so many are idle. */
        Trunk findIdle(int kept) {
            int idle = 0;
            Trunk found = null;
            for (int i = 0; i < trunks.length; i++) {
                if (trunks[i].state == IDLE) {
                    idle++;
                    if (found == null || number == 1) {
                        found = trunks[i];
                    }
                }
            }
            return idle > kept ? found : null;
        }

        void hush() {
            for (int i = 0; i < trunks.length; i++) {
                trunks[i].before = trunks[i].put;
                trunks[i].put = SILENCE;
            }
            for (int i = 0; i < ROOMS; i++) {
                roomSums[i] = 0;
            }
        }
    }

    /** One exchange's end of the link. */
    private static final class Link {
        int made;
        int acked;
        int next;
        int high;
        int got;
        int fib = 1;
        int bib = 1;
        int spoiled;
        // Only messages from acked on are ever sent, and these are never more than so many.
        final long[] messages = new long[MESSAGES];
        final Unit[] sent = new Unit[UNITS];
        final Unit[] coming = new Unit[2];

        Link() {
            for (int i = 0; i < UNITS; i++) {
                sent[i] = new Unit();
            }
            for (int i = 0; i < coming.length; i++) {
                coming[i] = new Unit();
            }
        }

        void post(long message) {
            if (made - acked < MESSAGES) {
                messages[made % MESSAGES] = message;
                made++;
            }
        }

        void fill(Unit unit) {
            unit.message = NO_MESSAGE;
            if (next < made && next < acked + WINDOW) {
                unit.message = messages[next % MESSAGES];
                next++;
                if (high < next) {
                    high = next;
                }
            }
            unit.fsn = next & 127;
            unit.bsn = got & 127;
            unit.fib = fib;
            unit.bib = bib;
            unit.fate = COMES;
        }

        /** Takes a unit of the other exchange: the message that comes by it, or NO_MESSAGE. */
        long take(Unit unit) {
            if (unit.fate == SPOILED) {
                spoiled++;
            }
            if (unit.fate != COMES) {
                return NO_MESSAGE;
            }
            int k = (unit.bsn - acked) & 127;
            if (k > high - acked) {
                return NO_MESSAGE;
            }
            acked += k;
            if (next < acked) {
                next = acked;
            }
            if (unit.bib != fib) {
                fib = unit.bib;
                next = acked;
            }
            int d = (unit.fsn - got) & 127;
            if (unit.fib != bib || d == 0) {
                return NO_MESSAGE;
            }
            if (d == 1 && unit.message != NO_MESSAGE) {
                got++;
                return unit.message;
            }
            bib = 1 - bib;
            return NO_MESSAGE;
        }
    }

    /**
     * A unit of the link. Its message is held in one number: from bit 59 on the type, from 55 the
     * circuit; below these the cause of a REL, or from bit 52 the forwards and then the keys of an
     * IAM.
     */
    private static final class Unit {
        int bsn;
        int bib;
        int fsn;
        int fib;
        long message = NO_MESSAGE;
        // Ahead of the third tick nothing comes.
        int fate = LOST;

        void copyOf(Unit unit) {
            bsn = unit.bsn;
            bib = unit.bib;
            fsn = unit.fsn;
            fib = unit.fib;
            message = unit.message;
            fate = unit.fate;
        }

        static long pack(int type, int circuit, long content) {
            return ((long) type << 59) | ((long) circuit << 55) | content;
        }

        static long packIam(int forwards, long keys) {
            return ((long) forwards << 52) | keys;
        }

        static int typeOf(long message) {
            return (int) (message >> 59) & 7;
        }

        static int circuitOf(long message) {
            return (int) (message >> 55) & 15;
        }

        static int forwardsOf(long message) {
            return (int) (message >> 52) & 7;
        }

        static long keysOf(long message) {
            return message & ((1L << 52) - 1);
        }

        static int causeOf(long message) {
            return (int) message & 255;
        }

        static int sizeOf(long message) {
            if (message == NO_MESSAGE) {
                return 0;
            }
            switch (typeOf(message)) {
                case IAM: return 4 + countOf(keysOf(message));
                case REL: return 3;
                default: return 2;
            }
        }

        static int byteOf(long message, int i) {
            switch (i) {
                case 0: return circuitOf(message);
                case 1: return typeOf(message);
                case 2: return typeOf(message) == REL ? causeOf(message) : forwardsOf(message);
                case 3: return countOf(keysOf(message));
                default: return (int) (message >> (4 * (i - 4))) & 15;
            }
        }
    }

    /** The bits of one unit, as they are written and as they are read. */
    private static final class Wire {
        final byte[] bits = new byte[UNIT_BITS];
        int count;
        private int ones;
        private int check;
        private final byte[] body = new byte[UNIT_BITS];
        private int bodyCount;

        void write(Unit unit) {
            count = 0;
            putFlag();
            ones = 0;
            check = 65535;
            put(unit.bsn, 7);
            put(unit.bib, 1);
            put(unit.fsn, 7);
            put(unit.fib, 1);
            int size = Unit.sizeOf(unit.message);
            put(size, 6);
            put(0, 2);
            for (int i = 0; i < size; i++) {
                put(Unit.byteOf(unit.message, i), 8);
            }
            put(65535 - check, 16);
            putFlag();
        }

        private void putFlag() {
            for (int i = 0; i < 8; i++) {
                putBit(i == 0 || i == 7 ? 0 : 1);
            }
        }

        private void putBit(int b) {
            if (count < UNIT_BITS) {
                bits[count] = (byte) b;
                count++;
            }
        }

        private void put(int number, int width) {
            for (int i = 0; i < width; i++) {
                int b = (number >> i) & 1;
                putBit(b);
                check = stepCheck(check, b);
                ones = b == 1 ? ones + 1 : 0;
                if (ones == 5) {
                    putBit(0);
                    ones = 0;
                }
            }
        }

        private static int stepCheck(int r, int b) {
            return (((r ^ b) & 1) == 1) ? (r >> 1) ^ 33800 : r >> 1;
        }

        void turn(int k) {
            if (k >= 0 && k < count) {
                bits[k] = (byte) (1 - bits[k]);
            }
        }

        /** Reads the bits into a unit; false if they are spoiled. */
        boolean read(Unit unit, int circuits) {
            if (!isFlag(0) || !readBody() || bodyCount < 40) {
                return false;
            }
            int size = number(16, 6);
            if (bodyCount != 40 + 8 * size) {
                return false;
            }
            int r = 65535;
            for (int i = 0; i < bodyCount - 16; i++) {
                r = stepCheck(r, body[i]);
            }
            if (number(bodyCount - 16, 16) != 65535 - r) {
                return false;
            }
            unit.bsn = number(0, 7);
            unit.bib = number(7, 1);
            unit.fsn = number(8, 7);
            unit.fib = number(15, 1);
            unit.message = readMessage(size, circuits);
            return true;
        }

        private boolean isFlag(int at) {
            if (at < 0 || at + 8 > count) {
                return false;
            }
            for (int i = 0; i < 8; i++) {
                if (bits[at + i] != (i == 0 || i == 7 ? 0 : 1)) {
                    return false;
                }
            }
            return true;
        }

        /** Reads from bit 8 to the next flag, without what was put behind five ones. */
        private boolean readBody() {
            bodyCount = 0;
            int run = 0;
            for (int i = 8; i + 8 <= count; i++) {
                if (isFlag(i)) {
                    return true;
                }
                int b = bits[i];
                if (run == 5) {
                    if (b == 1) {
                        return false;
                    }
                    run = 0;
                } else {
                    body[bodyCount] = (byte) b;
                    bodyCount++;
                    run = b == 1 ? run + 1 : 0;
                }
            }
            return false;
        }

        private int number(int at, int width) {
            int v = 0;
            for (int i = 0; i < width; i++) {
                if (at + i < bodyCount && body[at + i] == 1) {
                    v |= 1 << i;
                }
            }
            return v;
        }

        private int readByte(int i) {
            return number(24 + 8 * i, 8);
        }

        private long readMessage(int size, int circuits) {
            if (size == 0) {
                return NO_MESSAGE;
            }
            int circuit = readByte(0);
            int type = readByte(1);
            if (size < 2 || circuit >= circuits) {
                return MALFORMED;
            }
            switch (type) {
                case IAM: return readIam(size, circuit);
                case REL: return size == 3 ? Unit.pack(type, circuit, readByte(2)) : MALFORMED;
                case ACM:
                case ANM:
                case RLC: return size == 2 ? Unit.pack(type, circuit, 0L) : MALFORMED;
                default: return MALFORMED;
            }
        }

        private long readIam(int size, int circuit) {
            int forwards = readByte(2);
            int keyCount = readByte(3);
            if (size < 4 || forwards > MOST_FORWARDS || keyCount > MOST_KEYS
                    || size != 4 + keyCount) {
                return MALFORMED;
            }
            long keys = NO_KEYS;
            for (int i = 0; i < keyCount; i++) {
                int k = readByte(4 + i);
                if (k >= KEY_KINDS) {
                    return MALFORMED;
                }
                keys = withKey(keys, k);
            }
            return Unit.pack(IAM, circuit, Unit.packIam(forwards, keys));
        }
    }

    /** What was told to befall units that were not sent yet. */
    private static final class Troubles {
        // Twice the unit's number, and the exchange's.
        private final int[] units = new int[MOST_TROUBLES];
        private final int[] bits = new int[MOST_TROUBLES];
        private int count;
        private int soonest;

        int add(int exchange, int n, int k) {
            if (count >= MOST_TROUBLES) {
                return FULL;
            }
            int unit = 2 * n + exchange;
            if (count == 0 || unit < soonest) {
                soonest = unit;
            }
            units[count] = unit;
            bits[count] = k;
            count++;
            return count;
        }

        // Each unit is forgotten when it is sent, so none that is sent later comes before it.
        boolean concern(int exchange, int n) {
            return count > 0 && soonest == 2 * n + exchange;
        }

        void turn(int exchange, int n, Wire wire) {
            for (int i = 0; i < count; i++) {
                if (units[i] == 2 * n + exchange) {
                    wire.turn(bits[i]);
                }
            }
        }

        void forget(int exchange, int n) {
            int kept = 0;
            for (int i = 0; i < count; i++) {
                if (units[i] != 2 * n + exchange) {
                    units[kept] = units[i];
                    bits[kept] = bits[i];
                    soonest = kept == 0 || units[i] < soonest ? units[i] : soonest;
                    kept++;
                }
            }
            count = kept;
        }
    }

    /** Tariffs and records. */
    private static final class Ledger {
        private final int[] tariffs = new int[ZONES * TARIFF_PARTS];
        private final int[] records = new int[MOST_RECORDS * RECORD_PARTS];
        int made;

        Ledger() {
            for (int zone = 0; zone < ZONES; zone++) {
                tariffs[zone * TARIFF_PARTS + 1] = 100;
            }
        }

        void setTariff(int zone, int setup, int step, int day, int night) {
            int at = zone * TARIFF_PARTS;
            tariffs[at] = setup;
            tariffs[at + 1] = step;
            tariffs[at + 2] = day;
            tariffs[at + 3] = night;
        }

        boolean isStep(Call call, int t) {
            int step = tariffs[call.zone * TARIFF_PARTS + 1];
            return call.lineA != null && t > 0 && step > 0 && t % step == 0;
        }

        /** Charges line A of a call; false if its credit is below the charge. */
        boolean charge(Call call, boolean first, int now) {
            Line line = call.lineA;
            if (line == null) {
                return true;
            }
            int at = call.zone * TARIFF_PARTS;
            int cents = now % 2400 < 800 ? tariffs[at + 3] : tariffs[at + 2];
            if (first) {
                cents += tariffs[at];
            }
            if (line.credit != NONE) {
                if (line.credit < cents) {
                    return false;
                }
                line.credit -= cents;
            }
            call.cents += cents;
            return true;
        }

        void write(Call call, int now) {
            int at = made % MOST_RECORDS * RECORD_PARTS;
            records[at] = call.lineA == null ? NONE : call.lineA.number;
            records[at + 1] = call.zone;
            records[at + 2] = call.from;
            records[at + 3] = now;
            records[at + 4] = call.cents;
            made++;
        }

        int read(int i, int what) {
            if (i < 0 || i >= made || i < made - MOST_RECORDS) {
                return NONE;
            }
            return records[i % MOST_RECORDS * RECORD_PARTS + what];
        }
    }
}
