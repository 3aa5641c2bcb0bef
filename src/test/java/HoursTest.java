/** Promises 9 to 15 and 30. */
final class HoursTest {
    private static final int MOST = Integer.MAX_VALUE, LEAST = Integer.MIN_VALUE;
    private static final String ALL =
        "spot open 3 1 2;spot window 2 0 0;spot corner 5 0 0;spot glass 4 9 8;spot hearth 3 0 0;reader 1 2;";

    public static void main(String[] args) {
        fallAndSun();
        fallIsRefused();
        hoursGoBy();
        hoursAreRefused();
        takenIsOut();
        takeIsRefused();
        changedAreTwo();
        changeIsRefused();
        maidDusts();
        dustsIsRefused();
        undoGoesBack();
        acts24();
        spotIsRefused();
        counts();
        sevenSpots();
        Due.end("HoursTest");
    }

    private static void fallAndSun() {
        DustReads x = null;
        for (int t = 0; t <= 999; t++) {
            int day = t - t / 24 * 24;
            // An object is good for 512 calls.
            if (day == 0) {
                x = Due.of(ALL);
            }
            boolean light = day > 5 && day < 18;
            Due.is("open " + t, x.fall(0, t, 0), 3);
            Due.is("window " + t, x.fall(1, t, 0), 2);
            Due.is("corner " + t, x.fall(2, t, 0), (t & 1) == 0 ? 2 : 3);
            Due.is("glass " + t, x.fall(3, t, 0), 0);
            Due.is("hearth " + t, x.fall(4, t, 0), light ? 3 : 6);
            for (int s = 0; s < 5; s++) {
                Due.is("sun at " + s + ", " + t, x.fall(s, t, 1), s == 1 && light ? 1 : 0);
            }
        }
        DustReads y = Due.of("spot corner 1 0 0;spot corner 2 0 0;spot corner 3 0 0;spot corner 4 0 0;");
        int[][] parts = {{0, 1}, {1, 1}, {1, 2}, {2, 2}};
        for (int s = 0; s < 4; s++) {
            Due.is("even hour in corner " + s, y.fall(s, 0, 0), parts[s][0]);
            Due.is("odd hour in corner " + s, y.fall(s, 25, 0), parts[s][1]);
        }
    }

    private static void fallIsRefused() {
        DustReads x = Due.of(ALL);
        int[][] wrong = {{-1, 0, 0}, {5, 0, 0}, {MOST, 0, 0}, {0, -1, 0}, {0, 1000, 0}, {0, LEAST, 0},
            {0, 0, -1}, {0, 0, 2}, {LEAST, MOST, LEAST}};
        for (int[] w : wrong) {
            Due.is("fall " + w[0] + " " + w[1] + " " + w[2], x.fall(w[0], w[1], w[2]), Due.BAD);
        }
    }

    private static void lies(DustReads x, String what, int... dust) {
        for (int s = 0; s < dust.length; s++) {
            Due.is(what + ": dust in " + s, x.spot(s, 1), dust[s]);
        }
    }

    private static void hoursGoBy() {
        DustReads x = Due.of(ALL);
        Due.is("one", x.hours(1), 1);
        lies(x, "behind hour 0", 4, 2, 2, 9, 6);
        Due.is("five more", x.hours(5), 6);
        lies(x, "behind hour 5", 19, 12, 15, 9, 36);
        Due.is("no sun yet", x.spot(1, 3), 0);
        Due.is("one more", x.hours(1), 7);
        Due.is("sun", x.spot(1, 3), 1);
        lies(x, "behind hour 6", 22, 14, 17, 9, 39);
        Due.is("to 24", x.hours(17), 24);
        lies(x, "a day", 73, 48, 60, 9, 3 * 36);
        Due.is("a day of sun", x.spot(1, 3), 12);
        Due.is("not elsewhere", x.spot(0, 3), 2);
        Due.is("nor under glass", x.spot(3, 3), 8);
        Due.is("24", x.hours(24), 48);
        lies(x, "two days", 145, 96, 120, 9, 6 * 36);
    }

    private static void hoursAreRefused() {
        DustReads x = Due.of(ALL);
        int[] wrong = {0, -1, 25, MOST, LEAST};
        for (int n : wrong) {
            Due.is("hours " + n, x.hours(n), Due.BAD);
        }
        Due.pass(x, 990);
        Due.is("beyond", x.hours(10), Due.FULL);
        Due.is("BAD ahead of FULL", x.hours(25), Due.BAD);
        Due.is("none went by", x.count(3), 990);
        Due.is("to the last", x.hours(9), 999);
        Due.is("no more", x.hours(1), Due.FULL);
        Due.is("nothing more came", x.spot(0, 1), 1 + 999 * 3);
        x.undo();
        Due.is("one again", x.hours(1), 999);
    }

    private static void takenIsOut() {
        DustReads x = Due.of(ALL);
        x.hours(6);
        Due.is("take", x.take(1, 3), 12);
        Due.is("no hour", x.count(3), 6);
        Due.is("no dust", x.spot(1, 1), 0);
        Due.is("out for", x.spot(1, 4), 3);
        Due.is("belongs there yet", x.spot(1, 2), 1);
        x.hours(2);
        Due.is("out for yet", x.spot(1, 4), 1);
        Due.is("out", x.count(5), 1);
        lies(x, "while it is out", 25, 0, 20, 9, 42);
        x.hours(1);
        Due.is("back", x.spot(1, 4), 0);
        Due.is("none out", x.count(5), 0);
        Due.is("still no dust", x.spot(1, 1), 0);
        Due.is("it did not fade", x.spot(1, 3), 0);
        x.hours(1);
        Due.is("dust again", x.spot(1, 1), 2);
        Due.is("sun again", x.spot(1, 3), 1);
        Due.is("for 48", x.take(0, 48), 31);
        Due.pass(x, 47);
        Due.is("yet", x.spot(0, 4), 1);
        Due.pass(x, 2);
        Due.is("one hour's", x.spot(0, 1), 3);
    }

    private static void takeIsRefused() {
        DustReads x = Due.of(ALL);
        int[][] wrong = {{-1, 1}, {5, 1}, {MOST, 1}, {0, 0}, {0, 49}, {0, -1}, {0, MOST}, {0, LEAST}};
        for (int[] w : wrong) {
            Due.is("take " + w[0] + " " + w[1], x.take(w[0], w[1]), Due.BAD);
        }
        x.take(0, 2);
        Due.is("out", x.take(0, 2), Due.STATE);
        Due.is("BAD ahead of STATE", x.take(0, 49), Due.BAD);
        Due.is("as it was", x.spot(0, 4), 2);
        Due.is("one act", x.count(4), 1);
    }

    private static void changedAreTwo() {
        DustReads x = Due.of(ALL);
        x.hours(12);
        Due.is("change", x.change(0, 1), 1);
        Due.is("book in 0", x.spot(0, 2), 1);
        Due.is("book in 1", x.spot(1, 2), 0);
        Due.is("faded in 0", x.spot(0, 3), 6);
        Due.is("faded in 1", x.spot(1, 3), 2);
        lies(x, "changed", 0, 0, 30, 9, 54);
        Due.is("draught stays", x.spot(0, 0), 3);
        x.hours(1);
        Due.is("the other fades", x.spot(1, 3), 3);
        Due.is("this one not", x.spot(0, 3), 6);
        Due.is("a third", x.change(4, 0), 1);
        Due.is("moved", x.moved(), 1 | 2 | 16);
        Due.is("back 1", x.change(0, 4), 1);
        Due.is("back 2", x.change(1, 0), 1);
        Due.is("none moved", x.moved(), 0);
        Due.is("faded came back", x.spot(1, 3), 6);
    }

    private static void changeIsRefused() {
        DustReads x = Due.of(ALL);
        int[][] wrong = {{0, 0}, {-1, 0}, {0, -1}, {5, 0}, {0, 5}, {MOST, LEAST}, {-1, -1}};
        for (int[] w : wrong) {
            Due.is("change " + w[0] + " " + w[1], x.change(w[0], w[1]), Due.BAD);
        }
        x.take(1, 1);
        Due.is("b out", x.change(0, 1), Due.STATE);
        Due.is("a out", x.change(1, 0), Due.STATE);
        Due.is("BAD ahead of STATE", x.change(1, 1), Due.BAD);
        Due.is("no act", x.count(4), 1);
        Due.is("dust stays", x.spot(0, 1), 1);
        Due.is("others", x.change(0, 2), 2);
    }

    private static void maidDusts() {
        DustReads x = Due.of(ALL);
        x.hours(2);
        lies(x, "ahead", 7, 4, 5, 9, 12);
        Due.is("dusts", x.dusts(0b10101), 24);
        lies(x, "behind", 0, 4, 0, 9, 0);
        Due.is("none", x.dusts(0), 0);
        Due.is("an act too", x.count(4), 4);
        Due.is("fading stays", x.spot(0, 3), 2);
        x.take(1, 2);
        Due.is("all, one out", x.dusts(31), 9);
        Due.is("out still", x.spot(1, 4), 2);
    }

    private static void dustsIsRefused() {
        DustReads x = Due.of(ALL);
        int[] wrong = {-1, 32, 33, 64, MOST, LEAST, 1 << 30};
        for (int set : wrong) {
            Due.is("dusts " + set, x.dusts(set), Due.BAD);
        }
        Due.is("no act", x.count(4), 0);
        lies(x, "as it was", 1, 0, 0, 9, 0);
    }

    private static void undoGoesBack() {
        DustReads x = Due.of(ALL);
        Due.is("none", x.undo(), Due.STATE);
        x.hours(8);
        x.take(4, 9);
        x.change(1, 2);
        x.hours(2);
        x.dusts(3);
        x.take(4, 1);
        x.take(0, 49);
        Due.is("acts", x.count(4), 13);
        Due.is("undo dusts", x.undo(), 12);
        lies(x, "dust is back", 31, 4, 5, 9, 0);
        Due.is("undo an hour", x.undo(), 11);
        Due.is("the hour", x.count(3), 9);
        Due.is("out longer", x.spot(4, 4), 8);
        x.undo();
        Due.is("undo change", x.undo(), 9);
        Due.is("none moved", x.moved(), 0);
        lies(x, "dust of both", 25, 16, 20, 9, 0);
        Due.is("faded", x.spot(1, 3), 2);
        Due.is("undo take", x.undo(), 8);
        Due.is("stands", x.spot(4, 4), 0);
        lies(x, "dust of it", 25, 16, 20, 9, 42);
        x.dusts(0);
        Due.is("an act by which nothing is another", x.undo(), 8);
        for (int left = 7; left >= 0; left--) {
            Due.is("hour", x.undo(), left);
        }
        Due.is("all undone", x.undo(), Due.STATE);
        lies(x, "as it was read", 1, 0, 0, 9, 0);
        Due.is("hour 0", x.count(3), 0);
    }

    private static void acts24() {
        DustReads x = Due.of(ALL);
        x.hours(24);
        Due.is("24", x.count(4), 24);
        x.hours(10);
        x.dusts(1);
        Due.is("24 yet", x.count(4), 24);
        for (int left = 23; left >= 0; left--) {
            Due.is("undo", x.undo(), left);
        }
        Due.is("no more", x.undo(), Due.STATE);
        Due.is("the oldest are forgotten", x.count(3), 11);
        Due.is("dust then", x.spot(0, 1), 34);
        x.hours(3);
        Due.is("three acts", x.count(4), 3);
        Due.is("undo", x.undo(), 2);
        Due.is("hour", x.count(3), 13);
        x.hours(24);
        x.undo();
        Due.is("one back", x.count(3), 36);
        Due.is("its dust", x.spot(0, 1), 1 + 3 * 36);
    }

    private static void spotIsRefused() {
        DustReads x = Due.of(ALL);
        int[][] wrong = {{-1, 0}, {5, 0}, {6, 0}, {7, 0}, {MOST, 0}, {LEAST, 0}, {0, -1}, {0, 5}, {0, MOST}, {5, 5}};
        for (int[] w : wrong) {
            Due.is("spot " + w[0] + " " + w[1], x.spot(w[0], w[1]), Due.BAD);
        }
    }

    private static void counts() {
        DustReads x = Due.of(ALL);
        x.row(3, 0, 0);
        x.hours(7);
        x.take(0, 3);
        x.take(2, 4);
        x.feed(0, 5);
        int[] due = {1, 5, 1, 7, 9, 2, 5};
        for (int what = 0; what < 7; what++) {
            Due.is("count " + what, x.count(what), due[what]);
        }
        int[] wrong = {-1, 7, MOST, LEAST};
        for (int what : wrong) {
            Due.is("count " + what, x.count(what), Due.BAD);
        }
    }

    private static void sevenSpots() {
        String glass = "spot glass 1 1 0;";
        DustReads x = Due.of(glass + glass + glass + glass + glass + glass + "spot open 2 1 0;");
        Due.is("the last", x.spot(6, 0), 2);
        Due.is("none behind it", x.spot(7, 0), Due.BAD);
        Due.is("take none", x.take(7, 1), Due.BAD);
        Due.is("change none", x.change(6, 7), Due.BAD);
        Due.is("fall in none", x.fall(7, 0, 0), Due.BAD);
        Due.is("set of all and none", x.dusts(128), Due.BAD);
        Due.is("hand for all and none", x.oneHand(255), Due.BAD);
        Due.is("kind of none", x.kind(7), Due.BAD);
        x.change(0, 6);
        Due.is("moved", x.moved(), 65);
        Due.is("hide", x.hide(0), 62);
        Due.is("dusts all", x.dusts(127), 5);
        for (int s = 0; s < 7; s++) {
            Due.is("out so far", x.count(5), s);
            x.take(s, 1);
        }
        Due.is("all out", x.count(5), 7);
    }
}
