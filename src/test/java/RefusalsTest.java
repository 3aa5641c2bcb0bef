/**
 * The head of "Terms": which refusal comes first, which arguments are BAD, and that nothing but status() is another
 * behind a refusal or a finding.
 */
final class RefusalsTest {
    private static final int MOST = Calls.MOST, LEAST = Calls.LEAST;
    private static final String BUSY = Calls.look(Calls.busy());
    private static final String FULL = Calls.look(Calls.nearlyFull());
    private static final String BARE = Calls.look(Calls.bare());

    public static void main(String[] args) {
        argumentsBeyondAreBad();
        argumentsWithinAreNot();
        alikeIsBad();
        withoutLibraryIsState();
        withoutLibraryNoSpotIs();
        withoutActsIsState();
        badAheadOfState();
        stateAheadOfFindings();
        badAheadOfFull();
        badAheadOfFindings();
        findingsFirstInTime();
        answeredLeavesNoFinding();
        othersLeaveStatus();
        Due.end("RefusalsTest");
    }

    /** A refused call: its answer, status() as it was (2), and nothing else another. */
    private static void refused(DustReads x, String all, int answer, String name, int... given) {
        found(x, all, answer, 2, name, given);
    }

    private static void found(DustReads x, String all, int answer, int status, String name, int... given) {
        String call = Calls.told(name, given);
        Due.is(call, Calls.make(x, name, given), answer);
        Due.is("status behind " + call, x.status(), status);
        Due.is("nothing is another behind " + call, Calls.look(x).equals(all) ? 1 : 0, 1);
    }

    private static void onBusy(int answer, String name, int... given) {
        refused(Calls.busy(), BUSY, answer, name, given);
    }

    private static void onFull(int answer, String name, int... given) {
        refused(Calls.nearlyFull(), FULL, answer, name, given);
    }

    private static void onBare(int answer, String name, int... given) {
        refused(Calls.bare(), BARE, answer, name, given);
    }

    private static void finding(int number, String name, int... given) {
        found(Calls.busy(), BUSY, -1000010 - number, number, name, given);
    }

    /** The numbers from least to most are as told, for the argument at a place of a call that is right otherwise. */
    private static void only(int at, int least, int most, String name, int... right) {
        int[] wrong = {least - 1, least - 2, least - 256, LEAST, LEAST + 1, LEAST + least, LEAST + most,
            most + 1, most + 2, most + 256, most + 65536, MOST, MOST - 1};
        for (int w : wrong) {
            int[] given = right.clone();
            given[at] = w;
            onBusy(Due.BAD, name, given);
        }
    }

    private static void spotOnly(int at, String name, int... right) {
        only(at, 0, 3, name, right);
    }

    // ---- BAD: a number is not as told; there is no such thing

    private static void argumentsBeyondAreBad() {
        only(0, 0, 7, "row", 4, 0, 5);
        only(1, 0, 2, "row", 4, 0, 5);
        for (int n : new int[] {41, 42, 296, MOST}) {
            onBusy(Due.BAD, "row", 0, 0, n);
        }
        only(0, 0, 7, "set", 0, 0, 1);
        only(0, 0, 7, "copy", 0, 0, 2, 0, 1);
        only(2, 0, 7, "copy", 0, 0, 2, 0, 1);
        only(0, 0, 7, "drop", 0);
        only(1, 1, 8, "feed", 32, 1);
        only(0, 1, 24, "hours", 1);
        spotOnly(0, "take", 0, 1);
        only(1, 1, 48, "take", 0, 1);
        spotOnly(0, "change", 0, 1);
        spotOnly(1, "change", 0, 1);
        only(0, 0, 15, "dusts", 1);
        spotOnly(0, "spot", 0, 0);
        only(1, 0, 4, "spot", 0, 0);
        spotOnly(0, "fall", 0, 0, 0);
        only(1, 0, 999, "fall", 0, 0, 0);
        only(2, 0, 1, "fall", 0, 0, 0);
        badForetold();
        only(0, 0, 1, "image", 0);
        only(0, 0, 1, "restore", 0);
        spotOnly(0, "kind", 0);
        spotOnly(0, "as", 0, 0);
        only(1, 0, 5, "as", 0, 0);
        spotOnly(0, "ask", 0, 0);
        only(1, 0, 1, "ask", 0, 0);
        only(0, 0, 6, "count", 0);
    }

    private static void badForetold() {
        spotOnly(0, "ahead", 0, 0, 0);
        only(1, 0, 99, "ahead", 0, 0, 0);
        only(2, 0, 1, "ahead", 0, 0, 0);
        for (String name : new String[] {"when", "who"}) {
            spotOnly(0, name, 0, 0, 0);
            only(1, 0, 9999, name, 0, 0, 0);
            only(2, 0, 1, name, 0, 0, 0);
        }
        only(0, 0, 15, "oneHand", 1);
        spotOnly(0, "like", 0, 1);
        spotOnly(1, "like", 0, 1);
        only(0, 0, 9999, "hide", 0);
        only(0, 0, 7, "learnt", 0, 0, 1, 0);
        only(2, 1, 20, "learnt", 0, 0, 1, 0);
        spotOnly(3, "learnt", 0, 0, 1, 0);
    }

    /** The ends of what is told are taken. */
    private static void argumentsWithinAreNot() {
        taken("spot", 0, 4);
        taken("spot", 3, 0);
        taken("ahead", 0, 0, 0);
        taken("ahead", 3, 99, 1);
        taken("fall", 3, 999, 1);
        taken("fall", 0, 0, 0);
        taken("hours", 1);
        taken("hours", 24);
        taken("take", 0, 1);
        taken("take", 2, 48);
        taken("change", 0, 2);
        taken("dusts", 0);
        taken("dusts", 15);
        taken("oneHand", 15);
        taken("hide", 0);
        taken("hide", 9999);
        taken("like", 3, 0);
        taken("when", 0, 0, 1);
        taken("who", 3, 0, 1);
        taken("learnt", 2, 0, 20, 0);
        taken("learnt", 0, 2, 1, 2);
        taken("image", 1);
        taken("restore", 1);
        taken("as", 3, 5);
        taken("ask", 3, 1);
        taken("kind", 3);
        taken("feed", 32, 8);
        taken("feed", 32, 1);
        taken("count", 6);
        taken("row", 7, 2, 40);
        taken("row", 0, 0, 0);
        taken("set", 0, 2, 5);
        taken("copy", 2, 18, 0, 0, 3);
        taken("drop", 2);
    }

    private static void taken(String name, int... given) {
        int got = Calls.make(Calls.busy(), name, given);
        Due.is(Calls.told(name, given) + " answered " + got + ", is no refusal", got < -1000000 ? 1 : 0, 0);
    }

    private static void alikeIsBad() {
        for (int s = 0; s < 4; s++) {
            onBusy(Due.BAD, "change", s, s);
            onBusy(Due.BAD, "like", s, s);
        }
    }

    // ---- which comes first

    /** STATE: no LIBRARY (ahead of BAD). */
    private static void withoutLibraryIsState() {
        for (int wrong : new int[] {-1, 0, 1, 25, 10000, MOST, LEAST}) {
            onBare(Due.STATE, "hours", wrong);
            onBare(Due.STATE, "dusts", wrong);
            onBare(Due.STATE, "oneHand", wrong);
            onBare(Due.STATE, "hide", wrong);
        }
        onBare(Due.STATE, "moved");
        onBare(Due.STATE, "undo");
        for (int k = 0; k < 2; k++) {
            onBare(Due.STATE, "image", k);
            onBare(Due.STATE, "restore", k);
        }
        for (int k : new int[] {-1, 2, MOST, LEAST}) {
            onBare(Due.BAD, "image", k);
            onBare(Due.BAD, "restore", k);
        }
    }

    /** There is no such SPOT where there is no LIBRARY. */
    private static void withoutLibraryNoSpotIs() {
        for (int s : new int[] {-1, 0, 6, 7}) {
            onBare(Due.BAD, "take", s, 1);
            onBare(Due.BAD, "change", s, 1);
            onBare(Due.BAD, "spot", s, 0);
            onBare(Due.BAD, "fall", s, 0, 0);
            onBare(Due.BAD, "ahead", s, 0, 0);
            onBare(Due.BAD, "when", s, 0, 0);
            onBare(Due.BAD, "who", s, 0, 0);
            onBare(Due.BAD, "like", s, 1);
            onBare(Due.BAD, "learnt", 0, 0, 1, s);
            onBare(Due.BAD, "kind", s);
            onBare(Due.BAD, "as", s, 0);
            onBare(Due.BAD, "ask", s, 0);
        }
    }

    private static DustReads withoutActs() {
        DustReads x = Calls.busy();
        x.image(0);
        x.restore(0);
        x.hours(1);
        x.take(0, 2);
        x.undo();
        x.undo();
        return x;
    }

    /** STATE: none, where there is a LIBRARY; also where there were some, and behind restore. */
    private static void withoutActsIsState() {
        refused(withoutActs(), Calls.look(withoutActs()), Due.STATE, "undo");
        DustReads x = Calls.busy();
        DustReads y = Calls.busy();
        while (x.count(4) > 0) {
            x.undo();
            y.undo();
        }
        refused(x, Calls.look(y), Due.STATE, "undo");
        x = Calls.busy();
        y = Calls.busy();
        x.restore(1);
        y.restore(1);
        refused(x, Calls.look(y), Due.STATE, "undo");
    }

    /** SPOT 3 is out. */
    private static void badAheadOfState() {
        onBusy(Due.STATE, "take", 3, 1);
        onBusy(Due.STATE, "take", 3, 48);
        onBusy(Due.BAD, "take", 3, 0);
        onBusy(Due.BAD, "take", 3, 49);
        onBusy(Due.STATE, "change", 3, 0);
        onBusy(Due.STATE, "change", 0, 3);
        onBusy(Due.BAD, "change", 3, 3);
        onBusy(Due.BAD, "change", 3, 4);
        onBusy(Due.BAD, "change", -1, 3);
        onBusy(Due.STATE, "learnt", 0, 0, 1, 3);
        onBusy(Due.BAD, "learnt", 8, 0, 1, 3);
        onBusy(Due.BAD, "learnt", -1, 0, 1, 3);
        onBusy(Due.BAD, "learnt", 0, 0, 0, 3);
        onBusy(Due.BAD, "learnt", 0, 0, 21, 3);
    }

    private static void stateAheadOfFindings() {
        onBusy(Due.STATE, "learnt", 3, 0, 1, 3);
        onBusy(Due.STATE, "learnt", 7, -1, 20, 3);
        onBusy(Due.STATE, "learnt", 0, -1, 1, 3);
        onBusy(Due.STATE, "learnt", 0, 0, 4, 3);
    }

    /** Hour 990, 398 bytes. */
    private static void badAheadOfFull() {
        for (int n : new int[] {10, 11, 24}) {
            onFull(Due.FULL, "hours", n);
        }
        for (int n : new int[] {0, 25, -1, MOST, LEAST}) {
            onFull(Due.BAD, "hours", n);
        }
        for (int n : new int[] {3, 4, 8}) {
            onFull(Due.FULL, "feed", 32, n);
        }
        for (int n : new int[] {0, 9, -1, MOST, LEAST}) {
            onFull(Due.BAD, "feed", 32, n);
        }
    }

    private static void badAheadOfFindings() {
        onBusy(Due.BAD, "row", 8, 0, -1);
        onBusy(Due.BAD, "row", 0, 3, -1);
        onBusy(Due.BAD, "row", -1, -1, LEAST);
        onBusy(Due.BAD, "set", 8, -1, 0);
        onBusy(Due.BAD, "copy", 3, -1, 8, -1, -1);
        onBusy(Due.BAD, "copy", -1, -1, 3, -1, -1);
        onBusy(Due.BAD, "learnt", 3, 0, 0, 0);
        onBusy(Due.BAD, "learnt", 0, -1, 1, 4);
        onBusy(Due.BAD, "as", 4, 2);
        onBusy(Due.BAD, "as", 0, 6);
    }

    // ---- FINDINGS, of several the first in time

    private static void findingsFirstInTime() {
        finding(4, "row", 0, 2, -1);
        finding(4, "row", 7, 0, LEAST);
        finding(1, "set", 3, 0, 1);
        finding(1, "set", 4, -1, 1);
        for (int i : new int[] {-1, 3, 40, 256, MOST, LEAST}) {
            finding(2, "set", 0, i, 1);
            finding(2, "learnt", 0, i, 1, 0);
        }
        finding(1, "drop", 3);
        finding(1, "drop", 7);
        finding(1, "learnt", 3, 0, 1, 0);
        finding(1, "learnt", 3, -1, 1, 0);
        finding(2, "learnt", 0, 0, 4, 0);
        finding(2, "learnt", 0, 1, 3, 0);
        finding(2, "learnt", 2, 2, 20, 0);
        finding(2, "learnt", 2, MOST - 19, 20, 0);
        finding(3, "as", 0, 2);
        finding(3, "as", 3, 1);
        findingsOfCopy();
    }

    private static void findingsOfCopy() {
        // Row 3 had another LANE than 0 and 1 have: it is missing all the same.
        finding(1, "copy", 3, 0, 0, 0, 0);
        finding(1, "copy", 0, 0, 3, 0, 0);
        finding(1, "copy", 3, 0, 3, 0, 0);
        finding(1, "copy", 1, -1, 3, -1, -1);
        finding(1, "copy", 6, 0, 1, 9, 0);
        finding(5, "copy", 0, 0, 1, 0, 1);
        finding(5, "copy", 1, 0, 0, 0, 0);
        finding(5, "copy", 1, -1, 0, 9, -1);
        int[][] places = {{-1, 0, 1}, {0, -1, 1}, {0, 0, -1}, {3, 0, 1}, {0, 21, 1}, {1, 0, 3}, {0, 19, 3}, {4, 0, 0},
            {0, 22, 0}, {0, 0, 4}, {-1, 0, 0}, {0, -1, 0}, {LEAST, 0, 1}, {0, LEAST, 1}, {0, 0, LEAST}, {MOST, 0, 1},
            {0, MOST, 1}, {0, 0, MOST}, {MOST, MOST, MOST}, {1, 1, MOST}, {MOST, 0, 0}, {-1, -1, 2}, {3, 21, -1},
            {LEAST, LEAST, LEAST}, {MOST, 0, LEAST}};
        for (int[] p : places) {
            finding(2, "copy", 0, p[0], 2, p[1], p[2]);
        }
        finding(2, "copy", 2, 19, 0, 0, 3);
        finding(2, "copy", 2, 0, 2, 1, 21);
    }

    /** status() is 0 behind a call with a row, or as(), that had no finding; NONE and values below are no findings. */
    private static void answeredLeavesNoFinding() {
        answered(40, 0, "row", 5, 2, 40);
        answered(-1000015, 0, "set", 1, 3, -1000015);
        answered(0, 0, "copy", 0, 3, 2, 21, 0);
        answered(3, 0, "drop", 0);
        answered(Due.NONE, 0, "learnt", 0, 0, 3, 0);
        answered(3, 0, "as", 3, 4);
    }

    /** Calls without a row, but for as(), leave status() as it is, where they answer too. */
    private static void othersLeaveStatus() {
        answered(15, 2, "feed", 32, 8);
        answered(-1000105, 2, "library");
        answered(2, 2, "fault");
        answered(29, 2, "hours", 24);
        answered(8, 2, "take", 1, 1);
        answered(1, 2, "change", 0, 2);
        answered(18, 2, "dusts", 7);
        answered(7, 2, "undo");
        answered(4, 2, "spot", 0, 1);
        answered(1, 2, "fall", 2, 0, 0);
        answered(4, 2, "ahead", 0, 0, 0);
        answered(1, 2, "when", 0, 4, 0);
        answered(Due.NONE, 2, "when", 0, 9999, 0);
        answered(1, 2, "who", 0, 4, 1);
        answered(3, 2, "oneHand", 0);
        answered(6, 2, "moved");
        answered(Due.NONE, 2, "like", 0, 1);
        answered(0, 2, "hide", 9999);
        answered(1, 2, "image", 0);
        answered(1, 2, "restore", 0);
        answered(4, 2, "kind", 2);
        answered(4, 2, "ask", 0, 1);
        answered(23, 2, "trace", 0);
        answered(3, 2, "count", 0);
    }

    private static void answered(int answer, int status, String name, int... given) {
        DustReads x = Calls.busy();
        Due.is(Calls.told(name, given), Calls.make(x, name, given), answer);
        Due.is("status behind " + Calls.told(name, given), x.status(), status);
    }
}
