import java.util.List;
import java.util.Map;

/**
 * What an answered call leaves as it is: all that can be seen of an object behind the call is held against the same
 * of one on which it was not made.
 */
final class StaysTest {
    private static final String SEVEN = "spot window 1 10 20;spot corner 2 11 21;spot hearth 3 12 22;"
        + "spot open 4 13 23;spot glass 5 14 24;spot window 4 15 25;spot window 3 16 26;";
    private static final Map<String, String> BUSY = Calls.parts(busy());

    public static void main(String[] args) {
        seenAsItIs();
        rows();
        tape();
        acts();
        actsUndone();
        asked();
        foretold();
        images();
        lateAsForetold();
        sevenSpots();
        sevenSpotsOut();
        Due.end("StaysTest");
    }

    /** Calls.busy() with 4 for status(). */
    private static DustReads busy() {
        DustReads x = Calls.busy();
        x.row(0, 0, -1);
        return x;
    }

    /** What a call changes on its way to BUSY, and when it is looked at, must not hide itself. */
    private static void seenAsItIs() {
        String start = " 4 2 0 0 1 0 0 1 0 2 5 1 2 0 3 9 2 3 0 4 2 3 4 0";
        String hour1 = " 4 2 1 0 1 1 0 1 0 2 7 1 2 0 3 10 2 3 0 4 2 3 4 0";
        String changed = " 4 2 1 0 1 1 0 1 0 2 0 2 3 0 3 0 1 2 0 4 2 3 4 0";
        String dusted = " 4 2 1 0 1 0 0 1 0 2 0 2 3 0 3 0 1 2 0 4 2 3 4 0";
        String hour2 = " 4 2 2 0 1 1 0 1 0 2 2 2 3 0 3 2 1 2 0 4 2 3 4 0";
        String hour3 = " 4 2 3 0 1 2 0 1 0 2 4 2 3 0 3 3 1 2 0 4 2 3 4 0";
        String hour4 = " 4 2 4 0 1 3 0 1 0 2 6 2 3 0 3 5 1 2 0 4 2 3 4 0";
        String taken = " 4 2 4 1 1 3 0 1 0 2 6 2 3 0 3 5 1 2 0 4 0 3 4 7";
        alike("status", BUSY.get("status"), "4");
        alike("fault", BUSY.get("fault"), "2");
        alike("trace", BUSY.get("trace"), " 23 20 13 10 -1000000 -1000000");
        alike("library", BUSY.get("library"), " 4 2 5 1 1 4 0 1 0 2 8 2 3 0 3 6 1 2 0 4 0 3 4 6");
        alike("acts", BUSY.get("acts"), "8; undo 7" + taken + "; undo 6" + hour4 + "; undo 5" + hour3 + "; undo 4"
            + hour2 + "; undo 3" + dusted + "; undo 2" + changed + "; undo 1" + hour1 + "; undo 0" + start);
        alike("image 0", BUSY.get("image 0"), hour4);
        alike("image 1", BUSY.get("image 1"), hour1);
        alike("tape", BUSY.get("tape"), "7 1 5 1");
        alike("rows", BUSY.get("rows"), " 3 64 3 4 40000 4 21 64 21" + " 0 -1000011 -1000011".repeat(5));
    }

    private static void stays(Map<String, String> ahead, DustReads x, String call, String... another) {
        Map<String, String> behind = Calls.parts(x);
        for (String part : ahead.keySet()) {
            if (!List.of(another).contains(part)) {
                alike(part + " behind " + call, behind.get(part), ahead.get(part));
            }
        }
    }

    private static void alike(String what, String got, String want) {
        if (!got.equals(want)) {
            System.out.println(what + ": " + got + ", due is " + want);
        }
        Due.is(what + " is as it was", got.equals(want) ? 1 : 0, 1);
    }

    /** All but some parts stay behind a call on busy(). */
    private static void allBut(String[] another, String name, int... given) {
        DustReads x = busy();
        int answer = Calls.make(x, name, given);
        Due.is(Calls.told(name, given) + " is not refused", answer >= Due.NONE ? 1 : 0, 1);
        stays(BUSY, x, Calls.told(name, given), another);
    }

    private static void all(String name, int... given) {
        allBut(new String[0], name, given);
    }

    private static void rows() {
        String[] another = {"rows", "status"};
        allBut(another, "row", 4, 1, 2);
        allBut(another, "row", 0, 1, 2);
        allBut(another, "set", 0, 1, 9);
        allBut(another, "copy", 2, 1, 0, 0, 2);
        allBut(another, "drop", 2);
        allBut(new String[] {"status"}, "copy", 1, 0, 1, 1, 3);
        allBut(new String[] {"status"}, "copy", 0, 3, 2, 21, 0);
        allBut(new String[] {"status"}, "set", 1, 3, 7);
        otherRowsStay();
    }

    /** The rows beside the one that is written; of that one the items beside. */
    private static void otherRowsStay() {
        for (int row = 0; row < 8; row++) {
            DustReads x = new DustReads();
            for (int r = 0; r < 8; r++) {
                Due.lay(x, r, 2, 10 + r, 20 + r, 30 + r);
            }
            x.set(row, 1, 5);
            x.copy(row, 1, (row + 3) % 8, 0, 1);
            x.drop((row + 5) % 8);
            x.row((row + 6) % 8, 2, 3);
            for (int r = 0; r < 8; r++) {
                int[] due = {10 + r, 20 + r, 30 + r};
                if (r == row) {
                    due[1] = 5;
                } else if (r == (row + 3) % 8) {
                    due[0] = 5;
                } else if (r == (row + 6) % 8) {
                    due = new int[3];
                }
                for (int i = 0; i < 3 && r != (row + 5) % 8; i++) {
                    Due.read(x, "spot glass 1 " + due[i] + " 0;");
                    Due.is("row " + r + ", item " + i, x.learnt(r, i, 1, 0), 1);
                }
            }
            Due.is("seven are left", x.count(0), 7);
        }
    }

    private static void tape() {
        allBut(new String[] {"tape"}, "feed", 32, 1);
        allBut(new String[] {"tape"}, "feed", 32, 8);
        all("fault");
        DustReads x = busy();
        Due.is("a fault at gl", x.library(), -1000105);
        stays(BUSY, x, "library with a fault", "tape", "fault");
        DustReads y = busy();
        Due.feed(y, "ass 1 7 0;");
        Due.is("none", y.library(), 1);
        stays(BUSY, y, "library", "tape", "library", "acts");
    }

    private static void acts() {
        String[] another = {"library", "acts"};
        allBut(another, "hours", 1);
        allBut(another, "take", 1, 3);
        allBut(another, "change", 0, 1);
        allBut(another, "dusts", 7);
        allBut(another, "undo");
    }

    /** Undone, everything is as it was, the ACTS that were there too. */
    private static void actsUndone() {
        undone(2, "hours", 2);
        for (int s = 0; s < 3; s++) {
            undone(1, "take", s, 5);
            undone(1, "change", s, (s + 1) % 3);
            undone(1, "dusts", 1 << s);
        }
        undone(1, "dusts", 15);
        undone(1, "dusts", 0);
    }

    private static void undone(int times, String name, int... given) {
        DustReads x = busy();
        Calls.make(x, name, given);
        for (int k = times - 1; k >= 0; k--) {
            Due.is("undo", x.undo(), 8 + k);
        }
        stays(BUSY, x, Calls.told(name, given) + " and undo");
    }

    private static void asked() {
        for (int s = 0; s < 4; s++) {
            for (int what = 0; what < 5; what++) {
                all("spot", s, what);
            }
            all("kind", s);
            allBut(new String[] {"status"}, "as", s, 0);
            allBut(new String[] {"trace"}, "ask", s, 0);
            allBut(new String[] {"trace"}, "ask", s, 1);
        }
        for (int i = -1; i < 6; i++) {
            all("trace", i);
        }
        for (int what = 0; what < 7; what++) {
            all("count", what);
        }
        all("status");
    }

    /** FORETOLD (nothing changes). */
    private static void foretold() {
        for (int s = 0; s < 4; s++) {
            for (int what = 0; what < 2; what++) {
                all("fall", s, 0, what);
                all("fall", s, 999, what);
                all("ahead", s, 0, what);
                all("ahead", s, 99, what);
                all("when", s, 0, what);
                all("when", s, 3, what);
                all("when", s, 9999, what);
                all("who", s, 0, what);
                all("who", s, 3, what);
            }
            all("like", s, (s + 1) % 4);
            all("like", (s + 2) % 4, s);
        }
        for (int set = 0; set < 16; set++) {
            all("oneHand", set);
        }
        for (int d : new int[] {0, 3, 9999}) {
            all("hide", d);
        }
        all("moved");
        allBut(new String[] {"status"}, "learnt", 0, 0, 3, 0);
        allBut(new String[] {"status"}, "learnt", 1, 0, 1, 0);
        likeWithAnAnswer();
    }

    /** In BUSY no two SPOTS come to have like dust: here one is dusted, as the one that is out. */
    private static void likeWithAnAnswer() {
        DustReads x = busy();
        x.dusts(1);
        DustReads y = busy();
        y.dusts(1);
        Due.is("like", y.like(0, 3), 0);
        stays(Calls.parts(x), y, "like");
    }

    private static void images() {
        for (int k = 0; k < 2; k++) {
            allBut(new String[] {"image " + k}, "image", k);
            allBut(new String[] {"library", "acts"}, "restore", k);
            DustReads x = busy();
            x.image(k);
            alike("image " + k, Calls.parts(x).get("image " + k), BUSY.get("library"));
            DustReads y = busy();
            y.restore(k);
            Map<String, String> behind = Calls.parts(y);
            alike("restored " + k, behind.get("library"), BUSY.get("image " + k));
            alike("no act behind it", behind.get("acts"), "0");
        }
    }

    /** Also where 24 ACTS are kept and the tape is nearly full. */
    private static void lateAsForetold() {
        Map<String, String> ahead = Calls.parts(Calls.nearlyFull());
        int[][] given = {{0, 99, 0}, {0, 4, 0}, {0, 4, 1}, {0, 1}, {3}, {15}};
        String[] names = {"ahead", "when", "who", "like", "hide", "oneHand"};
        for (int k = 0; k < names.length; k++) {
            DustReads x = Calls.nearlyFull();
            Calls.make(x, names[k], given[k]);
            stays(ahead, x, Calls.told(names[k], given[k]));
        }
    }

    private static String spots(DustReads x) {
        StringBuilder seen = new StringBuilder().append(x.count(3));
        for (int s = 0; s < 7; s++) {
            seen.append(';');
            for (int what = 1; what < 5; what++) {
                seen.append(' ').append(x.spot(s, what));
            }
        }
        return seen.toString();
    }

    /** Each of seven SPOTS is as it was, behind an ACT undone and behind an IMAGE restored. */
    private static void sevenSpots() {
        DustReads x = Due.of(SEVEN);
        String[] ahead = new String[7];
        x.image(0);
        for (int k = 0; k < 7; k++) {
            ahead[k] = spots(x);
            if (k == 0) {
                x.hours(1);
            } else if (k == 6) {
                x.dusts(127);
            } else {
                x.change(k, k + 1);
            }
        }
        alike("each moved", spots(x), "1; 0 0 20 0; 0 2 22 0; 0 3 23 0; 0 4 24 0; 0 5 25 0; 0 6 26 0; 0 1 21 0");
        for (int k = 6; k >= 0; k--) {
            Due.is("undo", x.undo(), k);
            alike("undone " + k, spots(x), ahead[k]);
        }
        x.hours(1);
        x.restore(0);
        alike("restored", spots(x), ahead[0]);
    }

    private static void sevenSpotsOut() {
        DustReads x = Due.of(SEVEN);
        x.image(0);
        String stand = spots(x);
        for (int s = 0; s < 7; s++) {
            x.take(s, s + 2);
        }
        String out = spots(x);
        alike("out", out, "0; 0 0 20 2; 0 1 21 3; 0 2 22 4; 0 3 23 5; 0 4 24 6; 0 5 25 7; 0 6 26 8");
        x.image(1);
        x.hours(1);
        alike("an hour", spots(x), "1; 0 0 20 1; 0 1 21 2; 0 2 22 3; 0 3 23 4; 0 4 24 5; 0 5 25 6; 0 6 26 7");
        x.undo();
        alike("undone", spots(x), out);
        x.hours(8);
        alike("one hour more", spots(x).substring(0, 2), "8;");
        Due.is("the last stands", x.spot(6, 4), 0);
        x.restore(1);
        alike("restored", spots(x), out);
        x.hours(9);
        Due.is("dust again", x.spot(6, 1), 3);
        Due.is("faded again", x.spot(6, 3), 27);
        x.restore(0);
        alike("at first", spots(x), stand);
    }
}
