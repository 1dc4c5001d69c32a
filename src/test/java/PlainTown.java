import java.util.ArrayList;
import java.util.Arrays;
import java.util.List;
import java.util.Set;
import java.util.TreeSet;

/**
 * The document written down a second time, as plainly as can be and without thought of room or
 * speed: every call is kept, every unit goes as bits. RandomRunsTest compares the class with it.
 *
 * <p>A side is one number: a line's own, 100 and a circuit's, 200 and a room's, 300 and a group's.
 */
final class PlainTown {
    static final int NONE = -1, BAD = -2, FULL = -3;

    static final class Row {
        List<Integer> prefix;
        int length, kind, arg, zone;
    }

    static final class Call {
        int exchange, a = NONE, b = NONE, state = 0, zone = 0, forwards = 0, cents = 0;
        int stateBegan, keyCame, ringBegan, begin, group = NONE;
        boolean over, acmWent;
        List<Integer> keys = new ArrayList<>();
        Row row;
    }

    static final class Line {
        boolean closed, lifted, away, wasFree = true;
        int opened, quiet, pulses, cause, tone, since, credit = NONE, says, hears;
        List<Integer> keys = new ArrayList<>();
        Call active, other, rings;
        boolean[] feature = new boolean[3];
        List<List<Integer>> forward = new ArrayList<>(
                List.of(List.<Integer>of(), List.<Integer>of(), List.<Integer>of()));
    }

    static final class End {
        int acked, next, high, got, fib = 1, bib = 1, spoiled;
        List<int[]> messages = new ArrayList<>();
        List<int[]> units = new ArrayList<>();
    }

    /** What happened at least once, so that the test can see that its runs reach everything. */
    final Set<String> seen = new TreeSet<>();

    final int circuits, reserved;
    int now;
    List<Integer> keys = new ArrayList<>();
    final List<List<Row>> plans = List.of(new ArrayList<>(), new ArrayList<>());
    final Line[] lines = new Line[16];
    final int[][] state = new int[2][16];
    final Call[][] circuitCall = new Call[2][16];
    final int[][] put = new int[2][16];
    final int[][] most = new int[2][3];
    final List<List<List<Integer>>> members = new ArrayList<>();
    final List<List<List<Call>>> waits = new ArrayList<>();
    final List<List<List<Call>>> rooms = new ArrayList<>();
    final int[][] tariffs = new int[4][];
    final List<int[]> records = new ArrayList<>();
    final List<Call> calls = new ArrayList<>();
    final End[] ends = {new End(), new End()};
    final List<int[]> spoils = new ArrayList<>();
    final List<int[]> losses = new ArrayList<>();

    PlainTown(int circuits, int reserved) {
        this.circuits = Math.max(1, Math.min(16, circuits));
        this.reserved = Math.max(0, Math.min(this.circuits, reserved));
        for (int i = 0; i < 16; i++) {
            lines[i] = new Line();
        }
        for (int e = 0; e < 2; e++) {
            Arrays.fill(put[e], code0(0));
            members.add(List.of(new ArrayList<>(), new ArrayList<>(), new ArrayList<>()));
            waits.add(List.of(new ArrayList<>(), new ArrayList<>(), new ArrayList<>()));
            rooms.add(List.of(new ArrayList<>(), new ArrayList<>()));
        }
        for (int z = 0; z < 4; z++) {
            tariffs[z] = new int[] {0, 100, 0, 0};
        }
    }

    /** The call whose number, as CountedTown has them, stands first, with what is behind it. */
    int ask(int... c) {
        switch (c[0]) {
            case 0: return key(c[1]);
            case 1: return keyless();
            case 2: return plan(c[1], c[2], c[3], c[4], c[5]);
            case 3: return member(c[1], c[2]);
            case 4: return waiting(c[1], c[2], c[3]);
            case 5: return feature(c[1], c[2], c[3] != 0);
            case 6: return forward(c[1], c[2]);
            case 7: return tariff(c[1], c[2], c[3], c[4], c[5]);
            case 8: return credit(c[1], c[2]);
            case 9: return hook(c[1], c[2] != 0);
            case 10: return dial(c[1], c[2]);
            case 11: return say(c[1], c[2]);
            case 12: return spoil(c[1], c[2], c[3]);
            case 13: return lose(c[1], c[2]);
            case 14: return tick(c[1]);
            case 15: return line(c[1], c[2]);
            case 16: return partner(c[1]);
            case 17: return heard(c[1]);
            case 18: return circuit(c[1], c[2]);
            case 19: return speech(c[1], c[2]);
            case 20: return group(c[1], c[2], c[3]);
            case 21: return room(c[1], c[2]);
            case 22: return link(c[1], c[2]);
            case 23: return bit(c[1], c[2], c[3]);
            case 24: return record(c[1], c[2]);
            default: return told(c[1]);
        }
    }

    static boolean in(int v, int low, int high) {
        return v >= low && v <= high;
    }

    // ---- what is set

    int key(int k) {
        if (!in(k, 0, 11)) return BAD;
        if (keys.size() == 12) return FULL;
        keys.add(k);
        return keys.size();
    }

    int keyless() {
        int n = keys.size();
        keys = new ArrayList<>();
        return n;
    }

    int plan(int exchange, int length, int kind, int arg, int zone) {
        if (!in(exchange, 0, 1) || keys.isEmpty() || !in(length, keys.size(), 12)) return BAD;
        if (!in(kind, 0, 4) || !in(zone, 0, 3)) return BAD;
        if (kind == 0 && !in(arg, 8 * exchange, 8 * exchange + 7)) return BAD;
        if ((kind == 1 || kind == 2) && !in(arg, 0, length)) return BAD;
        if (kind == 3 && !in(arg, 0, 2)) return BAD;
        if (kind == 4 && !in(arg, 0, 1)) return BAD;
        for (Row r : plans.get(exchange)) if (r.prefix.equals(keys)) return BAD;
        if (plans.get(exchange).size() == 24) return FULL;
        Row r = new Row();
        r.prefix = keys;
        r.length = length;
        r.kind = kind;
        r.arg = arg;
        r.zone = zone;
        keys = new ArrayList<>();
        plans.get(exchange).add(r);
        return plans.get(exchange).size() - 1;
    }

    int member(int group, int line) {
        if (!in(group, 0, 2) || !in(line, 0, 15)) return BAD;
        List<Integer> m = members.get(line / 8).get(group);
        if (m.contains(line)) return BAD;
        m.add(line);
        return m.size();
    }

    int waiting(int exchange, int group, int n) {
        if (!in(exchange, 0, 1) || !in(group, 0, 2) || !in(n, 0, 10)) return BAD;
        int before = most[exchange][group];
        most[exchange][group] = n;
        return before;
    }

    int feature(int line, int what, boolean on) {
        if (!in(line, 0, 15) || !in(what, 0, 2)) return BAD;
        int before = lines[line].feature[what] ? 1 : 0;
        lines[line].feature[what] = on;
        return before;
    }

    int forward(int line, int when) {
        if (!in(line, 0, 15) || !in(when, 0, 2)) return BAD;
        lines[line].forward.set(when, keys);
        keys = new ArrayList<>();
        return 1;
    }

    int tariff(int zone, int setup, int step, int day, int night) {
        if (!in(zone, 0, 3) || !in(setup, 0, 10000) || !in(step, 1, 1000)) return BAD;
        if (!in(day, 0, 200) || !in(night, 0, 200)) return BAD;
        tariffs[zone] = new int[] {setup, step, day, night};
        return 1;
    }

    int credit(int line, int cents) {
        if (!in(line, 0, 15) || !in(cents, -1, 1000000)) return BAD;
        int before = lines[line].credit;
        lines[line].credit = cents;
        return before;
    }

    int hook(int line, boolean closed) {
        if (!in(line, 0, 15)) return BAD;
        int before = lines[line].closed ? 1 : 0;
        lines[line].closed = closed;
        return before;
    }

    int dial(int line, int k) {
        if (!in(line, 0, 15) || !in(k, 0, 11) || !lines[line].lifted) return BAD;
        if (lines[line].keys.size() == 20) return FULL;
        lines[line].keys.add(k);
        return lines[line].keys.size();
    }

    int say(int line, int v) {
        if (!in(line, 0, 15) || !in(v, -8000, 8000)) return BAD;
        int before = lines[line].says;
        lines[line].says = v;
        return before;
    }

    private int notSent(List<int[]> told) {
        int n = 0;
        for (int[] t : told) if (t[1] >= now) n++;
        return n;
    }

    int spoil(int exchange, int n, int k) {
        if (!in(exchange, 0, 1) || !in(n, now, now + 100000) || !in(k, 0, 255)) return BAD;
        if (notSent(spoils) == 300) return FULL;
        spoils.add(new int[] {exchange, n, k});
        return notSent(spoils);
    }

    int lose(int exchange, int n) {
        if (!in(exchange, 0, 1) || !in(n, now, now + 100000)) return BAD;
        if (notSent(losses) == 300) return FULL;
        losses.add(new int[] {exchange, n});
        return notSent(losses);
    }

    int tick(int n) {
        if (!in(n, 1, 1000)) return BAD;
        if (now + n > 10000000) return FULL;
        for (int i = 0; i < n; i++) {
            unitComes(0);
            unitComes(1);
            for (int l = 0; l < 16; l++) look(l);
            for (Call c : new ArrayList<>(calls)) if (!c.over) times(c);
            calls.removeIf(c -> c.over);
            for (int e = 0; e < 2; e++) for (int g = 0; g < 3; g++) serve(e, g);
            speak();
            unitGoes(0);
            unitGoes(1);
            now++;
        }
        return now;
    }

    // ---- the calls of this town

    int made, over;

    private Call make(int exchange, int a) {
        Call c = new Call();
        c.exchange = exchange;
        c.a = a;
        c.stateBegan = now;
        c.keyCame = now;
        calls.add(c);
        made++;
        return c;
    }

    private void watchFree() {
        for (Line l : lines) {
            boolean free = !l.lifted && l.rings == null;
            if (free && !l.wasFree) l.since = now;
            l.wasFree = free;
        }
    }

    private static boolean isLine(int side) {
        return side >= 0 && side < 100;
    }

    private static boolean isCircuit(int side) {
        return side >= 100 && side < 200;
    }

    private void state(Call c, int s) {
        c.state = s;
        c.stateBegan = now;
        if (s != 0 && s != 1 && isCircuit(c.a) && !c.acmWent) {
            c.acmWent = true;
            goes(c.exchange, c.a - 100, 2);
        }
    }

    static boolean begins(List<Integer> whole, List<Integer> part) {
        return part.size() <= whole.size() && whole.subList(0, part.size()).equals(part);
    }

    /** null: more; a row without prefix: wrong. */
    private Row analysis(int exchange, List<Integer> k) {
        Row wrong = new Row();
        Row best = null;
        for (Row r : plans.get(exchange)) {
            if (r.prefix.size() > k.size() && begins(r.prefix, k)) return null;
        }
        for (Row r : plans.get(exchange)) {
            if (begins(k, r.prefix) && (best == null || r.prefix.size() > best.prefix.size())) {
                best = r;
            }
        }
        if (best == null || best.length < k.size()) return wrong;
        return best.length > k.size() ? null : best;
    }

    private void place(Call c, Row r) {
        c.row = r;
        c.b = NONE;
        c.group = NONE;
        int e = c.exchange;
        if (r.kind == 1 || r.kind == 2) {
            if (r.kind == 1 && isLine(c.a) && lines[c.a].feature[1]) {
                seen.add("barred");
                fails(c, 8);
                return;
            }
            int idle = 0, lowest = NONE, highest = NONE;
            for (int i = circuits - 1; i >= 0; i--) if (state[e][i] == 0) lowest = i;
            for (int i = 0; i < circuits; i++) {
                if (state[e][i] == 0) {
                    idle++;
                    highest = i;
                }
            }
            if (r.kind == 1 && idle <= reserved || idle == 0) {
                seen.add(idle == 0 ? "none idle" : "reserved");
                fails(c, 3);
                return;
            }
            int chosen = e == 0 ? lowest : highest;
            c.b = 100 + chosen;
            state[e][chosen] = 1;
            circuitCall[e][chosen] = c;
            List<Integer> rest = c.keys.subList(r.arg, c.keys.size());
            int[] m = new int[4 + rest.size()];
            m[0] = chosen;
            m[1] = 1;
            m[2] = c.forwards;
            m[3] = rest.size();
            for (int i = 0; i < rest.size(); i++) m[4 + i] = rest.get(i);
            goes(e, m);
            state(c, 1);
            seen.add(isCircuit(c.a) ? "tandem" : "sent");
        } else if (r.kind == 0) {
            placeLine(c, r.arg);
        } else if (r.kind == 3) {
            int free = waits.get(e).get(r.arg).isEmpty() ? freeMember(e, r.arg) : NONE;
            if (free != NONE) {
                rings(c, free, r.arg);
                seen.add("group rings");
            } else if (waits.get(e).get(r.arg).size() < most[e][r.arg]) {
                c.b = 300 + r.arg;
                waits.get(e).get(r.arg).add(c);
                state(c, 4);
                seen.add("waits");
            } else {
                seen.add("group full");
                fails(c, 2);
            }
        } else {
            List<Call> in = rooms.get(e).get(r.arg);
            if (in.size() == 8) {
                seen.add("room full");
                fails(c, 2);
            } else {
                in.add(c);
                c.b = 200 + r.arg;
                answered(c);
                seen.add(isCircuit(c.a) ? "room by circuit" : "room by line");
            }
        }
    }

    private void placeLine(Call c, int l) {
        Line line = lines[l];
        if (line.feature[0]) {
            seen.add("not disturb");
            fails(c, 8);
        } else if (!line.forward.get(0).isEmpty()) {
            seen.add("forward always");
            forwarded(c, line.forward.get(0));
        } else if (!line.lifted && line.rings == null) {
            rings(c, l, NONE);
            seen.add("line rings");
        } else if (line.feature[2] && line.active != null && line.active.state == 3
                && line.other == null) {
            line.other = c;
            c.b = l;
            c.ringBegan = now;
            state(c, 2);
            seen.add("other rings");
        } else if (!line.forward.get(1).isEmpty()) {
            seen.add("forward busy");
            forwarded(c, line.forward.get(1));
        } else {
            seen.add("busy");
            fails(c, 2);
        }
    }

    private void rings(Call c, int l, int group) {
        lines[l].rings = c;
        c.b = l;
        c.group = group;
        c.ringBegan = now;
        state(c, 2);
        watchFree();
    }

    private int freeMember(int e, int g) {
        int best = NONE;
        for (int l : members.get(e).get(g)) {
            boolean ok = !lines[l].lifted && lines[l].rings == null && !lines[l].away;
            if (ok && (best == NONE || lines[l].since < lines[best].since)) best = l;
        }
        return best;
    }

    private void forwarded(Call c, List<Integer> to) {
        c.forwards++;
        if (c.forwards > 5) {
            seen.add("too many forwards");
            fails(c, 2);
            return;
        }
        c.keys = new ArrayList<>(to);
        Row r = analysis(c.exchange, c.keys);
        if (r == null || r.prefix == null) {
            seen.add("forwarded wrongly");
            fails(c, 1);
        } else {
            place(c, r);
        }
    }

    private void answered(Call c) {
        state(c, 3);
        c.begin = now;
        if (isCircuit(c.a)) goes(c.exchange, c.a - 100, 3);
        else charge(c, true);
    }

    private void charge(Call c, boolean first) {
        int[] t = tariffs[c.zone];
        boolean night = now % 2400 < 800;
        int cents = (first ? t[0] : 0) + (night ? t[3] : t[2]);
        Line l = lines[c.a];
        seen.add((first ? "first charge " : "charge ") + (night ? "night" : "day"));
        if (l.credit != NONE && l.credit < cents) {
            seen.add(first ? "no credit first" : "no credit later");
            over(c, 5, NONE);
            return;
        }
        if (l.credit != NONE) l.credit -= cents;
        c.cents += cents;
    }

    private void fails(Call c, int cause) {
        over(c, cause, NONE);
    }

    private void over(Call c, int cause, int by) {
        seen.add("over " + Math.min(cause, 9));
        int[] sides = {c.a, c.b};
        for (int side : sides) {
            if (side == NONE || side == by) continue;
            if (isLine(side)) {
                Line l = lines[side];
                if (l.rings == c) l.rings = null;
                if (l.active == c) {
                    l.active = null;
                    l.cause = cause;
                    l.tone = cause == 1 ? 4 : 3;
                }
                if (l.other == c) {
                    l.other = null;
                    seen.add("other over");
                }
            } else if (isCircuit(side)) {
                goes(c.exchange, side - 100, 4, cause);
                state[c.exchange][side - 100] = 3;
                circuitCall[c.exchange][side - 100] = null;
            }
        }
        for (List<Call> w : waits.get(c.exchange)) w.remove(c);
        for (List<Call> r : rooms.get(c.exchange)) r.remove(c);
        if (c.state == 3 && isLine(c.a)) {
            records.add(new int[] {c.a, c.zone, c.begin, now, c.cents});
        }
        c.over = true;
        over++;
        watchFree();
    }

    // ---- lines, times, groups

    private void look(int n) {
        Line l = lines[n];
        if (!l.lifted) {
            if (l.closed) {
                l.lifted = true;
                fresh(l);
                lift(n);
            }
            return;
        }
        if (!l.closed) {
            l.opened++;
            if (l.opened == 40) {
                l.lifted = false;
                fresh(l);
                hang(n);
            }
            return;
        }
        if (in(l.opened, 1, 9)) {
            l.pulses++;
            l.quiet = 0;
        }
        if (in(l.opened, 10, 39)) {
            flash(l);
            l.pulses = 0;
        }
        l.opened = 0;
        if (l.pulses > 0) {
            l.quiet++;
            if (l.quiet == 20) {
                int p = l.pulses;
                l.pulses = 0;
                if (p <= 10) {
                    seen.add("pulsed key");
                    keyComes(l, p % 10);
                } else {
                    seen.add("too many pulses");
                }
            }
        } else if (!l.keys.isEmpty()) {
            keyComes(l, l.keys.remove(0));
        }
    }

    private void fresh(Line l) {
        l.opened = 0;
        l.quiet = 0;
        l.pulses = 0;
        l.keys.clear();
    }

    private void lift(int n) {
        Line l = lines[n];
        l.away = false;
        if (l.rings != null) {
            l.active = l.rings;
            l.rings = null;
            watchFree();
            answered(l.active);
        } else {
            l.active = make(n / 8, n);
        }
        watchFree();
    }

    private void hang(int n) {
        Line l = lines[n];
        Call a = l.active, o = l.other;
        l.active = null;
        l.other = null;
        if (a != null) over(a, 7, n);
        if (o != null) over(o, 7, n);
        if (a != null && o != null) seen.add("hang with other");
        l.tone = 0;
        watchFree();
    }

    private void flash(Line l) {
        if (l.other == null) return;
        Call o = l.other;
        l.other = l.active;
        l.active = o;
        seen.add(l.other == null ? "flash with none" : "flash");
        if (o.state == 2) {
            seen.add("flash answers");
            answered(o);
        }
    }

    private void keyComes(Line l, int k) {
        Call c = l.active;
        if (c == null || c.state != 0) return;
        c.keys.add(k);
        c.keyCame = now;
        Row r = analysis(c.exchange, c.keys);
        if (r == null) return;
        if (r.prefix == null) {
            fails(c, 1);
        } else {
            c.zone = r.zone;
            place(c, r);
        }
    }

    private void times(Call c) {
        int t = now - c.stateBegan;
        if (c.state == 0 && now - c.keyCame == 500) {
            seen.add("dialling time");
            fails(c, 1);
        } else if (c.state == 1 && t == 500) {
            over(c, 6, NONE);
        } else if (c.state == 2 && isLine(c.b)) {
            ringTime(c, now - c.ringBegan);
        } else if (c.state == 4 && t == 3000) {
            seen.add("waiting time");
            over(c, 4, NONE);
        } else if (c.state == 3 && isLine(c.a) && t > 0 && t % tariffs[c.zone][1] == 0) {
            charge(c, false);
        }
    }

    private void ringTime(Call c, int t) {
        Line l = lines[c.b];
        if (c.group != NONE) {
            if (t == 300) {
                seen.add("away");
                l.rings = null;
                l.away = true;
                watchFree();
                waits.get(c.exchange).get(c.group).add(0, c);
                c.b = 300 + c.group;
                c.group = NONE;
                state(c, 4);
            }
        } else if (t == 300 && !l.forward.get(2).isEmpty()) {
            seen.add(l.other == c ? "forward other" : "forward without answer");
            if (l.rings == c) l.rings = null;
            if (l.other == c) l.other = null;
            watchFree();
            c.b = NONE;
            forwarded(c, l.forward.get(2));
        } else if (t == 600) {
            seen.add("ringing time");
            over(c, 4, NONE);
        }
    }

    private void serve(int e, int g) {
        List<Call> w = waits.get(e).get(g);
        while (!w.isEmpty() && freeMember(e, g) != NONE) {
            seen.add("served");
            rings(w.remove(0), freeMember(e, g), g);
        }
    }

    // ---- the link

    private void goes(int e, int... message) {
        End end = ends[e];
        if (end.messages.size() - end.acked >= 200) {
            seen.add("message gone");
            return;
        }
        end.messages.add(message);
    }

    /** A row of bits that grows. */
    static final class Bits {
        int[] at = new int[320];
        int size;

        void add(int b) {
            at[size++] = b;
        }

        void number(int v, int width) {
            for (int i = 0; i < width; i++) add(v / (1 << i) % 2);
        }

        int read(int from, int width) {
            int v = 0;
            for (int i = 0; i < width; i++) v += at[from + i] << i;
            return v;
        }

        int check(int before) {
            int r = 65535;
            for (int i = 0; i < before; i++) {
                int x = r ^ at[i];
                r = r / 2;
                if (x % 2 == 1) r ^= 33800;
            }
            return 65535 - r;
        }
    }

    static int[] bitsOf(int bsn, int bib, int fsn, int fib, int[] message) {
        Bits body = new Bits();
        body.number(bsn, 7);
        body.number(bib, 1);
        body.number(fsn, 7);
        body.number(fib, 1);
        body.number(message.length, 6);
        body.number(0, 2);
        for (int b : message) body.number(b, 8);
        body.number(body.check(body.size), 16);
        Bits all = new Bits();
        all.number(126, 8);
        int ones = 0;
        for (int i = 0; i < body.size; i++) {
            all.add(body.at[i]);
            ones = body.at[i] == 1 ? ones + 1 : 0;
            if (ones == 5) {
                all.add(0);
                ones = 0;
            }
        }
        all.number(126, 8);
        return Arrays.copyOf(all.at, all.size);
    }

    private void unitGoes(int e) {
        End end = ends[e];
        int[] message = {};
        if (end.next < end.messages.size() && end.next < end.acked + 100) {
            if (end.next < end.high) seen.add("goes again");
            message = end.messages.get(end.next);
            end.next++;
            end.high = Math.max(end.high, end.next);
        }
        end.units.add(bitsOf(end.got % 128, end.bib, end.next % 128, end.fib, message));
    }

    private void unitComes(int e) {
        int n = now - 2;
        if (n < 0) return;
        for (int[] l : losses) {
            if (l[0] == 1 - e && l[1] == n) {
                seen.add("lost");
                return;
            }
        }
        int[] bits = ends[1 - e].units.get(n).clone();
        for (int[] s : spoils) {
            if (s[0] == 1 - e && s[1] == n && s[2] < bits.length) bits[s[2]] ^= 1;
        }
        Bits left = unstuffed(bits);
        End end = ends[e];
        if (left == null || left.size < 40 || left.size != 40 + 8 * left.read(16, 6)
                || left.check(left.size - 16) != left.read(left.size - 16, 16)) {
            end.spoiled++;
            seen.add("spoiled");
            return;
        }
        int k = Math.floorMod(left.read(0, 7) - end.acked, 128);
        if (k > end.high - end.acked) {
            seen.add("odd bsn");
            return;
        }
        end.acked += k;
        end.next = Math.max(end.next, end.acked);
        if (left.read(7, 1) != end.fib) {
            end.fib = left.read(7, 1);
            end.next = end.acked;
            seen.add("asked again");
        }
        if (left.read(15, 1) != end.bib) return;
        int d = Math.floorMod(left.read(8, 7) - end.got, 128);
        int size = left.read(16, 6);
        if (d == 0) return;
        if (d == 1 && size > 0) {
            end.got++;
            int[] m = new int[size];
            for (int i = 0; i < size; i++) m[i] = left.read(24 + 8 * i, 8);
            messageComes(e, m);
        } else {
            end.bib = 1 - end.bib;
            seen.add("turned");
        }
    }

    private static final int[] FLAG = {0, 1, 1, 1, 1, 1, 1, 0};

    private static boolean flagAt(int[] bits, int at) {
        return at + 8 <= bits.length && Arrays.equals(bits, at, at + 8, FLAG, 0, 8);
    }

    private static Bits unstuffed(int[] bits) {
        if (!flagAt(bits, 0)) return null;
        int end = 8;
        while (end < bits.length && !flagAt(bits, end)) end++;
        if (end == bits.length) return null;
        Bits left = new Bits();
        int run = 0;
        for (int i = 8; i < end; i++) {
            left.add(bits[i]);
            run = bits[i] == 1 ? run + 1 : 0;
            if (run == 5 && i + 1 < end) {
                i++;
                if (bits[i] == 1) return null;
                run = 0;
            }
        }
        return left;
    }

    private void messageComes(int e, int[] m) {
        if (m.length < 2 || m[0] >= circuits || !in(m[1], 1, 5)) {
            seen.add("malformed");
            return;
        }
        int c = m[0];
        Call call = circuitCall[e][c];
        int s = state[e][c];
        if (m[1] == 1) {
            boolean good = m.length >= 4 && m[2] <= 5 && m[3] <= 12 && m.length == 4 + m[3];
            for (int i = 4; i < m.length && good; i++) good = m[i] <= 11;
            if (!good) {
                seen.add("malformed iam");
                return;
            }
            iam(e, c, s, call, m);
            return;
        }
        if (m.length != (m[1] == 4 ? 3 : 2)) {
            seen.add("malformed size");
            return;
        }
        if (m[1] == 2 && s == 1 && call.state == 1) {
            state(call, 2);
            seen.add("acm");
        } else if (m[1] == 3 && s == 1 && (call.state == 1 || call.state == 2)) {
            seen.add(call.state == 1 ? "anm sent" : "anm ringing");
            answered(call);
        } else if (m[1] == 4 && (s == 1 || s == 2)) {
            seen.add(s == 1 ? "rel out" : "rel in");
            goes(e, c, 5);
            state[e][c] = 0;
            circuitCall[e][c] = null;
            over(call, m[2], 100 + c);
        } else if (m[1] == 4 && s == 3) {
            seen.add("rel clearing");
            goes(e, c, 5);
        } else if (m[1] == 5 && s == 3) {
            seen.add("rlc");
            state[e][c] = 0;
        } else {
            seen.add("nothing is done " + m[1]);
        }
    }

    private void iam(int e, int c, int s, Call call, int[] m) {
        if (s == 1 && call.state == 1 && c % 2 != e) {
            seen.add("both took it");
            circuitCall[e][c] = null;
            call.b = NONE;
            place(call, call.row);
        } else if (s != 0) {
            seen.add(s == 1 ? "iam out" : s == 2 ? "iam in" : "iam clearing");
            return;
        }
        state[e][c] = 2;
        Call fresh = make(e, 100 + c);
        circuitCall[e][c] = fresh;
        fresh.forwards = m[2];
        for (int i = 4; i < m.length; i++) fresh.keys.add(m[i]);
        Row r = analysis(e, fresh.keys);
        if (r == null || r.prefix == null) {
            seen.add("iam wrong");
            fails(fresh, 1);
        } else {
            place(fresh, r);
        }
    }

    // ---- speech

    static int place(int p) {
        int at = 0;
        while (p >> (at + 1) > 0) at++;
        return at;
    }

    static int code1(int v) {
        int p = Math.min(Math.abs(v), 8158) + 33;
        int q = place(p) - 5;
        return 255 - (v < 0 ? 128 : 0) - 16 * q - p / (1 << (q + 1)) % 16;
    }

    static int back1(int b) {
        int u = 255 - b;
        int q = u / 16 % 8;
        int v = (2 * (u % 16) + 33) * (1 << q) - 33;
        return u > 127 ? -v : v;
    }

    static int code0(int v) {
        int p = Math.abs(v) / 2;
        int q = 0, m = p / 2;
        if (p >= 32) {
            q = place(p) - 4;
            m = p / (1 << q) % 16;
        }
        return ((v >= 0 ? 128 : 0) + 16 * q + m) ^ 85;
    }

    static int back0(int b) {
        int u = b ^ 85;
        int q = u / 16 % 8, m = u % 16;
        int v = q == 0 ? 2 * (2 * m + 1) : 2 * (2 * m + 33) * (1 << (q - 1));
        return u < 128 ? -v : v;
    }

    static int heardIn(int e, int v) {
        return e == 0 ? back0(code0(v)) : back1(code1(v));
    }

    private int gives(Call c, int side, int[][] before) {
        if (isLine(side)) {
            return lines[side].active == c ? heardIn(side / 8, lines[side].says) : 0;
        }
        return back0(before[1 - c.exchange][side - 100]);
    }

    private void speak() {
        int[][] before = {put[0].clone(), put[1].clone()};
        for (int e = 0; e < 2; e++) Arrays.fill(put[e], code0(0));
        for (Line l : lines) l.hears = 0;
        for (Call c : calls) {
            if (c.over || c.state != 3) continue;
            for (int side : new int[] {c.a, c.b}) {
                if (side >= 200) continue;
                int other = side == c.a ? c.b : c.a;
                int v = 0;
                if (other >= 200) {
                    for (Call d : rooms.get(c.exchange).get(other - 200)) {
                        if (d != c) v += gives(d, d.a, before);
                    }
                    if (Math.abs(v) > 8000) seen.add("loud room");
                    v = Math.max(-8000, Math.min(8000, v));
                } else {
                    v = gives(c, other, before);
                }
                if (isCircuit(side)) put[c.exchange][side - 100] = code0(v);
                else if (lines[side].active == c) lines[side].hears = heardIn(side / 8, v);
            }
        }
    }

    // ---- what is told

    int line(int n, int what) {
        if (!in(n, 0, 15) || !in(what, 0, 8)) return BAD;
        Line l = lines[n];
        if (what == 0) return l.lifted ? 1 : 0;
        if (what == 1) return sounds(l);
        if (what == 2) return l.active == null ? NONE : l.active.state;
        if (what == 3) return l.other == null ? 0 : l.other.state == 2 ? 1 : 2;
        if (what == 4) return l.cause;
        if (what == 5) return l.away ? 1 : 0;
        if (what == 6) return l.credit;
        if (what == 7) return l.active == null ? 0 : l.active.keys.size();
        return l.keys.size();
    }

    private int sounds(Line l) {
        if (!l.lifted) return l.rings != null ? 5 : 0;
        if (l.active == null) return l.tone;
        int s = l.active.state;
        if (s == 0) return l.active.keys.isEmpty() ? 1 : 0;
        if (s == 1) return 0;
        if (s == 2) return 2;
        if (s == 4) return 6;
        return l.other != null && l.other.state == 2 ? 8 : 7;
    }

    int partner(int n) {
        if (!in(n, 0, 15)) return BAD;
        Call c = lines[n].active;
        if (c == null || c.state != 3) return NONE;
        return c.a == n ? c.b : c.a;
    }

    int heard(int n) {
        return in(n, 0, 15) ? lines[n].hears : BAD;
    }

    int circuit(int e, int c) {
        return in(e, 0, 1) && in(c, 0, circuits - 1) ? state[e][c] : BAD;
    }

    int speech(int e, int c) {
        return in(e, 0, 1) && in(c, 0, circuits - 1) ? put[e][c] : BAD;
    }

    int group(int e, int g, int what) {
        if (!in(e, 0, 1) || !in(g, 0, 2) || !in(what, 0, 1)) return BAD;
        return what == 0 ? waits.get(e).get(g).size() : members.get(e).get(g).size();
    }

    int room(int e, int r) {
        return in(e, 0, 1) && in(r, 0, 1) ? rooms.get(e).get(r).size() : BAD;
    }

    int link(int e, int what) {
        if (!in(e, 0, 1) || !in(what, 0, 6)) return BAD;
        End x = ends[e];
        return new int[] {x.messages.size(), x.acked, x.next, x.got, x.fib, x.bib,
            x.spoiled}[what];
    }

    int bit(int e, int n, int k) {
        if (!in(e, 0, 1)) return BAD;
        if (n < 0 || n >= now || n < now - 64) return NONE;
        int[] bits = ends[e].units.get(n);
        return in(k, 0, bits.length - 1) ? bits[k] : NONE;
    }

    int record(int i, int what) {
        if (!in(what, 0, 4)) return BAD;
        return i < 0 || i >= records.size() || i < records.size() - 300 ? NONE
                : records.get(i)[what];
    }

    int told(int what) {
        if (!in(what, 0, 4)) return BAD;
        int idle = 0;
        for (int c = 0; c < circuits; c++) if (state[0][c] == 0 && state[1][c] == 0) idle++;
        return new int[] {now, made, made - over, records.size(), idle}[what];
    }
}
