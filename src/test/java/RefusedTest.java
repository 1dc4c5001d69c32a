import java.util.ArrayList;
import java.util.List;

/**
 * What is refused changes nothing, and so does what is only told: an ordinary run answers the same
 * whether or not such a call stands ahead of each of its calls. (What is FULL stands in the tests
 * of the boundaries.)
 */
public final class RefusedTest extends Bench {
    private static final int KEY = CountedTown.KEY, PLAN = CountedTown.PLAN;
    private static final int MEMBER = CountedTown.MEMBER, WAITING = CountedTown.WAITING;
    private static final int FEATURE = CountedTown.FEATURE, FORWARD = CountedTown.FORWARD;
    private static final int TARIFF = CountedTown.TARIFF, CREDIT = CountedTown.CREDIT;
    private static final int HOOK = CountedTown.HOOK, DIAL = CountedTown.DIAL;
    private static final int SAY = CountedTown.SAY, SPOIL = CountedTown.SPOIL;
    private static final int LOSE = CountedTown.LOSE, TICK = CountedTown.TICK;
    private static final int LINE = CountedTown.LINE, PARTNER = CountedTown.PARTNER;
    private static final int HEARD = CountedTown.HEARD, CIRCUIT = CountedTown.CIRCUIT;
    private static final int SPEECH = CountedTown.SPEECH, GROUP = CountedTown.GROUP;
    private static final int ROOM = CountedTown.ROOM, LINK = CountedTown.LINK;
    private static final int BIT = CountedTown.BIT, RECORD = CountedTown.RECORD;
    private static final int TOLD = CountedTown.TOLD;

    private static final List<int[]> RUN = ordinaryRun();

    public static void main(String[] args) throws ReflectiveOperationException {
        runAll(RefusedTest.class);
    }

    // ---- the ordinary run

    private static void addRow(List<int[]> run, int[] prefix, int... plan) {
        for (int k : prefix) run.add(new int[] {KEY, k});
        run.add(new int[] {PLAN, plan[0], plan[1], plan[2], plan[3], plan[4]});
    }

    private static void addForward(List<int[]> run, int line, int when, int... keys) {
        for (int k : keys) run.add(new int[] {KEY, k});
        run.add(new int[] {FORWARD, line, when});
    }

    private static void addCall(List<int[]> run, int line, int... keys) {
        run.add(new int[] {HOOK, line, 1});
        run.add(new int[] {TICK, 1});
        for (int k : keys) run.add(new int[] {DIAL, line, k});
        run.add(new int[] {TICK, keys.length});
    }

    private static void addAll(List<int[]> run, int[]... calls) {
        for (int[] c : calls) run.add(c);
    }

    private static List<int[]> ordinaryRun() {
        List<int[]> run = new ArrayList<>();
        for (int i = 0; i < 4; i++) addRow(run, new int[] {2, i}, 0, 2, 0, i, 0);
        addRow(run, new int[] {3}, 0, 3, 1, 1, 1);
        addRow(run, new int[] {7}, 0, 1, 3, 0, 0);
        addRow(run, new int[] {8}, 0, 1, 4, 0, 2);
        addRow(run, new int[] {2}, 1, 2, 0, 12, 0);
        addForward(run, 3, 2, 2, 1);
        addForward(run, 2, 0, 8);
        addAll(run, new int[][] {{MEMBER, 0, 3}, {WAITING, 0, 0, 2}, {FEATURE, 1, 2, 1},
            {FEATURE, 6, 1, 1}, {TARIFF, 0, 5, 10, 3, 2}, {TARIFF, 1, 7, 20, 4, 1},
            {CREDIT, 0, 500}, {SAY, 0, 1000}, {SAY, 12, -500}, {LOSE, 0, 4}, {SPOIL, 1, 9, 33}});
        addCall(run, 0, 3, 2, 4);
        addAll(run, new int[][] {{TICK, 12}, {HOOK, 12, 1}, {TICK, 6}, {HEARD, 0}, {HEARD, 12},
            {SPEECH, 0, 0}, {SPEECH, 1, 0}, {PARTNER, 12}, {LINE, 0, 6}});
        addCall(run, 4, 7);
        addCall(run, 5, 7);
        addCall(run, 6, 2, 2);
        addAll(run, new int[][] {{GROUP, 0, 0, 0}, {ROOM, 0, 0}, {HOOK, 12, 0}, {TICK, 300},
            {LINE, 3, 5}, {LINE, 0, 4}, {RECORD, 0, 4}, {HOOK, 0, 0}, {TICK, 45}, {TOLD, 1},
            {TOLD, 2}, {TOLD, 4}, {LINK, 1, 6}, {BIT, 0, 340, 20}});
        return run;
    }

    /** Whatever a line, a link, a group, a room and a circuit tell at the end. */
    private static List<Integer> end() {
        List<Integer> all = new ArrayList<>();
        for (int l = 0; l < 16; l += l == 6 ? 6 : 1) {
            for (int what = 1; what < 9; what++) all.add(x.line(l, what));
        }
        for (int what = 0; what < 7; what++) {
            all.add(x.link(0, what));
            all.add(x.link(1, what));
        }
        for (int what = 0; what < 5; what++) all.add(x.told(what));
        all.add(x.group(0, 0, 0));
        all.add(x.group(0, 0, 1));
        all.add(x.room(0, 0));
        all.add(x.circuit(0, 0));
        all.add(x.circuit(1, 0));
        all.add(x.keyless());
        all.add(x.waiting(0, 0, 0));
        all.add(x.spoil(0, 5000, 1));
        all.add(x.lose(0, 5000));
        for (int what = 0; what < 3; what++) all.add(x.feature(1, what, false));
        return all;
    }

    private static void dueUnchanged(boolean refused, int[]... others) {
        town(2, 0);
        List<Integer> want = new ArrayList<>();
        for (int[] c : RUN) want.add(x.ask(c));
        want.addAll(end());
        town(2, 0);
        List<Integer> got = new ArrayList<>();
        int next = 0;
        for (int[] c : RUN) {
            int answer = x.ask(others[next]);
            if (refused) due("call " + next, answer, BAD);
            next = (next + 1) % others.length;
            got.add(x.ask(c));
        }
        got.addAll(end());
        for (int i = 0; i < want.size(); i++) due("answer " + i, got.get(i), want.get(i));
    }

    private static void dueRefused(int[]... calls) {
        dueUnchanged(true, calls);
    }

    private static void dueOnlyTold(int[]... calls) {
        dueUnchanged(false, calls);
    }

    // ---- what is refused

    static void promise2_badKeysChangeNothing() {
        dueRefused(new int[][] {{KEY, -1}, {KEY, 12}, {KEY, MIN}, {KEY, MAX}});
    }

    static void promise4_badRowsChangeNothing() {
        dueRefused(new int[][] {{PLAN, -1, 1, 4, 0, 0}, {PLAN, 2, 1, 4, 0, 0},
            {PLAN, 0, 0, 4, 0, 0}, {PLAN, 0, 13, 4, 0, 0}, {PLAN, 0, 2, -1, 0, 0},
            {PLAN, 0, 2, 5, 0, 0}, {PLAN, 0, 2, 0, 8, 0}, {PLAN, 1, 2, 0, 7, 0},
            {PLAN, 0, 2, 1, 3, 0}, {PLAN, 0, 2, 2, -1, 0}, {PLAN, 0, 2, 3, 3, 0},
            {PLAN, 0, 2, 4, 2, 0}, {PLAN, 0, 2, 4, 0, 4}, {PLAN, 0, 2, 4, 0, -1}});
    }

    static void promise5_badMembersChangeNothing() {
        dueRefused(new int[][] {{MEMBER, -1, 0}, {MEMBER, 3, 0}, {MEMBER, 0, -1}, {MEMBER, 0, 16}});
    }

    static void promise6_badWaitingChangesNothing() {
        dueRefused(new int[][] {{WAITING, -1, 0, 5}, {WAITING, 2, 0, 5}, {WAITING, 0, -1, 5},
            {WAITING, 0, 3, 5}, {WAITING, 0, 0, -1}, {WAITING, 0, 0, 11}});
    }

    static void promise7_badFeaturesChangeNothing() {
        dueRefused(new int[][] {{FEATURE, -1, 0, 1}, {FEATURE, 16, 0, 1}, {FEATURE, 1, -1, 1},
            {FEATURE, 1, 3, 1}, {FEATURE, 1, 3, 0}});
    }

    static void promise8_badForwardsChangeNothing() {
        dueRefused(new int[][] {{FORWARD, -1, 0}, {FORWARD, 16, 0}, {FORWARD, 1, -1},
            {FORWARD, 1, 3}});
    }

    static void promise9_badTariffsChangeNothing() {
        dueRefused(new int[][] {{TARIFF, -1, 1, 1, 1, 1}, {TARIFF, 4, 1, 1, 1, 1},
            {TARIFF, 0, -1, 1, 1, 1}, {TARIFF, 0, 10001, 1, 1, 1}, {TARIFF, 1, 1, 0, 1, 1},
            {TARIFF, 1, 1, 1001, 1, 1}, {TARIFF, 1, 1, 1, 201, 1}, {TARIFF, 1, 1, 1, 1, -1}});
    }

    static void promise10_badCreditsChangeNothing() {
        dueRefused(new int[][] {{CREDIT, -1, 5}, {CREDIT, 16, 5}, {CREDIT, 0, -2},
            {CREDIT, 0, 1000001}});
    }

    static void promise11_badHooksChangeNothing() {
        dueRefused(new int[][] {{HOOK, -1, 1}, {HOOK, 16, 1}, {HOOK, MIN, 0}, {HOOK, MAX, 0}});
    }

    static void promise12_badDialsChangeNothing() {
        dueRefused(new int[][] {{DIAL, -1, 5}, {DIAL, 16, 5}, {DIAL, 0, -1}, {DIAL, 0, 12},
            {DIAL, 15, 5}});
    }

    static void promise13_badSayingsChangeNothing() {
        dueRefused(new int[][] {{SAY, -1, 5}, {SAY, 16, 5}, {SAY, 0, 8001}, {SAY, 12, -8001}});
    }

    static void promise14_badSpoilsChangeNothing() {
        dueRefused(new int[][] {{SPOIL, -1, 200, 20}, {SPOIL, 2, 200, 20}, {SPOIL, 0, -1, 20},
            {SPOIL, 0, MAX, 20}, {SPOIL, 0, 200, -1}, {SPOIL, 0, 200, 256}});
    }

    static void promise15_badLossesChangeNothing() {
        dueRefused(new int[][] {{LOSE, -1, 200}, {LOSE, 2, 200}, {LOSE, 0, -1}, {LOSE, 0, MAX}});
    }

    static void promise16_badTicksChangeNothing() {
        dueRefused(new int[][] {{TICK, 0}, {TICK, -1}, {TICK, 1001}, {TICK, MIN}, {TICK, MAX}});
    }

    // ---- what is told

    static void promise17_toldOfALineNothingChanges() {
        dueOnlyTold(new int[][] {{LINE, 0, 0}, {LINE, 0, 1}, {LINE, 3, 2}, {LINE, 4, 3},
            {LINE, 12, 4}, {LINE, 3, 5}, {LINE, 0, 6}, {LINE, 0, 7}, {LINE, 0, 8}, {LINE, 0, 9},
            {LINE, 16, 0}, {LINE, -1, 0}});
    }

    static void promise18_toldOfPartnersNothingChanges() {
        dueOnlyTold(new int[][] {{PARTNER, 0}, {PARTNER, 12}, {PARTNER, 6}, {PARTNER, 16}});
    }

    static void promise19_toldOfWhatIsHeardNothingChanges() {
        dueOnlyTold(new int[][] {{HEARD, 0}, {HEARD, 12}, {HEARD, -1}});
    }

    static void promise20_toldOfCircuitsNothingChanges() {
        dueOnlyTold(new int[][] {{CIRCUIT, 0, 0}, {CIRCUIT, 1, 1}, {CIRCUIT, 0, 2}});
    }

    static void promise21_toldOfSpeechNothingChanges() {
        dueOnlyTold(new int[][] {{SPEECH, 0, 0}, {SPEECH, 1, 1}, {SPEECH, 0, 2}});
    }

    static void promise22_toldOfGroupsNothingChanges() {
        dueOnlyTold(new int[][] {{GROUP, 0, 0, 0}, {GROUP, 0, 0, 1}, {GROUP, 0, 0, 2}});
    }

    static void promise23_toldOfRoomsNothingChanges() {
        dueOnlyTold(new int[][] {{ROOM, 0, 0}, {ROOM, 1, 1}, {ROOM, 0, 2}});
    }

    static void promise24_toldOfTheLinkNothingChanges() {
        dueOnlyTold(new int[][] {{LINK, 0, 0}, {LINK, 1, 2}, {LINK, 0, 4}, {LINK, 0, 7}});
    }

    static void promise25_toldOfBitsNothingChanges() {
        dueOnlyTold(new int[][] {{BIT, 0, 3, 20}, {BIT, 1, 9, 40}, {BIT, 0, 20, 300}});
    }

    static void promise26_toldOfRecordsNothingChanges() {
        dueOnlyTold(new int[][] {{RECORD, 0, 0}, {RECORD, 0, 4}, {RECORD, 1, 5}});
    }

    static void promise27_toldOfAllNothingChanges() {
        dueOnlyTold(new int[][] {{TOLD, 0}, {TOLD, 1}, {TOLD, 2}, {TOLD, 3}, {TOLD, 4}, {TOLD, 5}});
    }
}
