/** Promises 16 to 23, and 31 as far as learnt() goes. */
final class ForetoldTest {
    private static final int MOST = Integer.MAX_VALUE, LEAST = Integer.MIN_VALUE;
    private static final String ALL =
        "spot open 3 1 2;spot window 2 0 0;spot corner 5 0 0;spot glass 4 9 8;spot hearth 3 0 0;"
        + "reader 0 11;reader 12 23;reader 6 6;reader 0 23;";

    public static void main(String[] args) {
        aheadIsWhatComes();
        aheadOfWhatIsOut();
        aheadIsRefused();
        whenByDust();
        whenWhereNothingFalls();
        whenIsRefused();
        whoCanAndMust();
        whoWithoutReaders();
        oneHandForAll();
        oneHandIsRefused();
        movedSpots();
        likeDust();
        likeIsRefused();
        hideFewest();
        hideOfSeveralTheLeast();
        hideIsRefused();
        learntDraught();
        learntInSorts();
        learntIsRefused();
        nothingChanges();
        Due.end("ForetoldTest");
    }

    private static void aheadIsWhatComes() {
        for (int s = 0; s < 5; s++) {
            aheadIsWhatComes(s, 0);
            aheadIsWhatComes(s, 1);
        }
        DustReads y = Due.of(ALL);
        Due.is("hearth by 7", y.ahead(4, 7, 0), 6 * 6 + 3);
        Due.is("window by 7", y.ahead(1, 7, 1), 1);
        y.hours(17);
        Due.is("dust of the evening's first hour", y.ahead(4, 1, 0), 6 * 6 + 11 * 3 + 3);
        Due.is("the last sun", y.ahead(1, 1, 1), 12);
        Due.is("no sun behind it", y.ahead(1, 2, 1), 12);
        Due.is("by none", y.ahead(3, 0, 0), 9);
        Due.is("by none", y.ahead(3, 0, 1), 8);
        Due.pass(y, 999 - 17);
        Due.is("beyond the last hour", y.ahead(0, 99, 0), 1 + 3 * (999 + 99));
    }

    private static void aheadIsWhatComes(int s, int what) {
        String name = (what == 0 ? "dust of " : "faded of ") + s;
        DustReads x = Due.of(ALL);
        x.hours(5);
        int[] told = new int[100];
        for (int n = 0; n <= 99; n++) {
            told[n] = x.ahead(s, n, what);
        }
        for (int n = 0; n <= 99; n++) {
            Due.is(name + " ahead by " + n, told[n], x.spot(s, what == 0 ? 1 : 3));
            x.hours(1);
        }
    }

    private static void aheadOfWhatIsOut() {
        DustReads x = Due.of(ALL);
        x.hours(6);
        x.take(1, 4);
        x.take(0, 48);
        int[] dust = {0, 0, 0, 0, 0, 2, 4};
        int[] faded = {0, 0, 0, 0, 0, 1, 2};
        for (int n = 0; n < dust.length; n++) {
            Due.is("dust by " + n, x.ahead(1, n, 0), dust[n]);
            Due.is("faded by " + n, x.ahead(1, n, 1), faded[n]);
        }
        Due.is("by 48", x.ahead(0, 48, 0), 0);
        Due.is("by 49", x.ahead(0, 49, 0), 3);
        x.change(2, 3);
        Due.is("the book that is there", x.ahead(2, 1, 1), 8);
        Due.is("the book that is there", x.ahead(3, 1, 1), 0);
    }

    private static void refusedByThree(String call, DustReads x, int[][] wrong) {
        for (int[] w : wrong) {
            int got = call.equals("ahead") ? x.ahead(w[0], w[1], w[2])
                : call.equals("when") ? x.when(w[0], w[1], w[2]) : x.who(w[0], w[1], w[2]);
            Due.is(call + " " + w[0] + " " + w[1] + " " + w[2], got, Due.BAD);
        }
    }

    private static void aheadIsRefused() {
        refusedByThree("ahead", Due.of(ALL), new int[][] {{-1, 0, 0}, {5, 0, 0}, {MOST, 0, 0}, {0, -1, 0},
            {0, 100, 0}, {0, MOST, 0}, {0, 0, -1}, {0, 0, 2}, {LEAST, LEAST, LEAST}});
    }

    private static void whenIs(DustReads x, int spot, int dust, int first, int last) {
        Due.is("when " + spot + " by " + dust + ", first", x.when(spot, dust, 0), first);
        Due.is("when " + spot + " by " + dust + ", last", x.when(spot, dust, 1), last);
    }

    private static void whenByDust() {
        DustReads x = Due.of(ALL);
        whenIs(x, 0, 0, 0, 0);
        whenIs(x, 0, 1, Due.NONE, Due.NONE);
        whenIs(x, 0, 3, Due.NONE, Due.NONE);
        x.hours(20);
        whenIs(x, 0, 0, 20, 20);
        whenIs(x, 0, 3, 19, 19);
        whenIs(x, 0, 4, Due.NONE, Due.NONE);
        whenIs(x, 0, 60, 0, 0);
        whenIs(x, 0, 61, Due.NONE, Due.NONE);
        whenIs(x, 0, 63, Due.NONE, Due.NONE);
        whenIs(x, 0, 9999, Due.NONE, Due.NONE);
        whenIs(x, 2, 3, 19, 19);
        whenIs(x, 2, 5, 18, 18);
        whenIs(x, 2, 2, Due.NONE, Due.NONE);
        whenIs(x, 4, 6, 19, 19);
        whenIs(x, 4, 12, 18, 18);
        whenIs(x, 4, 15, 17, 17);
        whenIs(x, 4, 9, Due.NONE, Due.NONE);
        x.take(0, 5);
        x.hours(2);
        whenIs(x, 0, 6, 20, 20);
        whenIs(x, 0, 66, 0, 0);
        x.undo();
        whenIs(x, 0, 6, 19, 19);
    }

    private static void whenWhereNothingFalls() {
        DustReads x = Due.of("spot glass 3 7 0;spot corner 1 0 0;reader 0 23;");
        whenIs(x, 1, 0, 0, 0);
        x.hours(1);
        whenIs(x, 0, 0, 0, 1);
        whenIs(x, 0, 7, Due.NONE, Due.NONE);
        whenIs(x, 1, 0, 0, 1);
        x.hours(9);
        whenIs(x, 0, 0, 0, 10);
        whenIs(x, 0, 1, Due.NONE, Due.NONE);
        whenIs(x, 1, 0, 10, 10);
        whenIs(x, 1, 1, 8, 9);
        whenIs(x, 1, 5, 0, 1);
        whenIs(x, 1, 6, Due.NONE, Due.NONE);
        x.hours(1);
        whenIs(x, 1, 0, 10, 11);
    }

    private static void whenIsRefused() {
        int[][] wrong = {{-1, 0, 0}, {5, 0, 0}, {MOST, 0, 0}, {0, -1, 0}, {0, 10000, 0}, {0, LEAST, 0},
            {0, 0, -1}, {0, 0, 2}, {LEAST, MOST, MOST}};
        refusedByThree("when", Due.of(ALL), wrong);
        refusedByThree("who", Due.of(ALL), wrong);
    }

    private static void whoIs(DustReads x, int spot, int dust, int inOne, int inEach) {
        Due.is("who " + spot + " by " + dust + ", in one", x.who(spot, dust, 0), inOne);
        Due.is("who " + spot + " by " + dust + ", in each", x.who(spot, dust, 1), inEach);
    }

    private static void whoCanAndMust() {
        DustReads x = Due.of(ALL);
        whoIs(x, 0, 0, 0b1001, 0b1001);
        x.hours(14);
        whoIs(x, 0, 0, 0b1010, 0b1010);
        whoIs(x, 0, 6, 0b1010, 0b1010);
        whoIs(x, 0, 9, 0b1001, 0b1001);
        whoIs(x, 0, 24, 0b1101, 0b1101);
        whoIs(x, 0, 21, 0b1001, 0b1001);
        whoIs(x, 0, 1, Due.NONE, Due.NONE);
        whoIs(x, 3, 0, 0b1111, 0b1000);
        whoIs(x, 3, 9, Due.NONE, Due.NONE);
        x.hours(16);
        whoIs(x, 0, 0, 0b1101, 0b1101);
        whoIs(x, 0, 3 * 7, 0b1010, 0b1010);
        DustReads y = Due.of("spot corner 1 0 0;reader 11 11;reader 12 12;reader 11 12;reader 10 12;");
        y.hours(13);
        whoIs(y, 0, 0, 0b1110, 0);
        whoIs(y, 0, 1, 0b1101, 0b1000);
        whoIs(y, 0, 2, 0, 0);
    }

    private static void whoWithoutReaders() {
        DustReads x = Due.of("spot open 1 0 0;");
        whoIs(x, 0, 0, 0, 0);
        whoIs(x, 0, 1, Due.NONE, Due.NONE);
        Due.is("no hand", x.oneHand(1), 0);
        Due.is("no hand for none", x.oneHand(0), 0);
    }

    private static void oneHandForAll() {
        DustReads x = Due.of(ALL);
        Due.is("all for none", x.oneHand(0), 0b1111);
        Due.is("dust that tells nobody", x.oneHand(1), 0);
        x.hours(6);
        x.dusts(1);
        x.hours(8);
        x.dusts(2);
        Due.is("touched at 6", x.oneHand(1), 0b1101);
        Due.is("touched at 14", x.oneHand(2), 0b1010);
        Due.is("both", x.oneHand(3), 0b1000);
        Due.is("corner, never touched", x.oneHand(4), 0b1001);
        Due.is("glass, its dust tells nobody", x.oneHand(8), 0);
        Due.is("all with glass", x.oneHand(31), 0);
        Due.is("all without", x.oneHand(0b10111), 0b1000);
        x.dusts(8);
        Due.is("glass tells anybody", x.oneHand(8), 0b1111);
        Due.is("with 6", x.oneHand(9), 0b1101);
        x.take(0, 9);
        Due.is("what is out has none", x.oneHand(1), 0b1010);
    }

    private static void oneHandIsRefused() {
        DustReads x = Due.of(ALL);
        for (int set : new int[] {-1, 32, 63, MOST, LEAST}) {
            Due.is("oneHand " + set, x.oneHand(set), Due.BAD);
        }
    }

    private static void movedSpots() {
        DustReads x = Due.of("spot open 1 0 0;spot open 1 0 0;spot open 1 0 0;spot open 1 0 0;");
        Due.is("none", x.moved(), 0);
        x.change(0, 3);
        Due.is("two", x.moved(), 0b1001);
        x.change(3, 2);
        Due.is("three", x.moved(), 0b1101);
        x.take(0, 3);
        Due.is("out too", x.moved(), 0b1101);
        x.change(2, 3);
        Due.is("two again", x.moved(), 0b1001);
        x.undo();
        Due.is("undone", x.moved(), 0b1101);
    }

    private static void likeDust() {
        DustReads x = Due.of("spot open 1 50 0;spot open 2 0 0;spot open 2 99 0;spot glass 1 99 0;spot open 1 0 0;"
            + "spot corner 1 0 0;spot hearth 1 2 0;");
        Due.is("50 of 1", x.like(0, 1), 50);
        Due.is("and the other way", x.like(1, 0), 50);
        Due.is("at once", x.like(2, 3), 0);
        Due.is("the 99th", x.like(3, 4), 99);
        Due.is("never", x.like(1, 2), Due.NONE);
        Due.is("too late", x.like(3, 5), Due.NONE);
        Due.is("at once, then no more", x.like(4, 5), 0);
        Due.is("hearth and open", x.like(6, 1), 8);
        x.hours(1);
        Due.is("an hour less", x.like(0, 1), 49);
        Due.is("98th", x.like(3, 4), 98);
        x.dusts(16);
        Due.is("all of 99", x.like(3, 4), 99);
        x.hours(1);
        x.dusts(16);
        x.take(4, 1);
        Due.is("a hundred", x.like(3, 4), Due.NONE);
        DustReads y = Due.of("spot open 3 0 0;spot open 1 4 0;spot open 2 0 0;");
        y.take(0, 4);
        Due.is("what is out comes back", y.like(0, 1), 8);
        Due.is("it has none now", y.like(0, 2), 0);
        y.hours(1);
        y.take(1, 5);
        Due.is("both out", y.like(0, 1), 0);
        Due.is("one out, the other grows", y.like(2, 0), 11);
    }

    private static void likeIsRefused() {
        DustReads x = Due.of(ALL);
        int[][] wrong = {{0, 0}, {-1, 0}, {0, -1}, {5, 0}, {0, 5}, {MOST, LEAST}, {-1, -1}};
        for (int[] w : wrong) {
            Due.is("like " + w[0] + " " + w[1], x.like(w[0], w[1]), Due.BAD);
        }
    }

    private static void hideFewest() {
        DustReads x = Due.of("spot glass 1 10 0;spot glass 1 13 0;spot glass 1 99 0;spot glass 1 12 0;");
        int[][] due = {{0, 15}, {1, 15}, {2, 15}, {9, 15}, {10, 14}, {11, 14}, {12, 6}, {13, 4}, {86, 4}, {88, 4},
            {89, 0}, {9999, 0}};
        for (int[] d : due) {
            Due.is("hide " + d[0], x.hide(d[0]), d[1]);
        }
        x.take(2, 5);
        int[][] less = {{0, 11}, {2, 11}, {3, 0}, {9, 0}};
        for (int[] d : less) {
            Due.is("one out, hide " + d[0], x.hide(d[0]), d[1]);
        }
        x.dusts(0);
        x.take(0, 1);
        x.take(1, 1);
        x.take(3, 1);
        Due.is("none stands", x.hide(0), 0);
    }

    private static void hideOfSeveralTheLeast() {
        DustReads x = Due.of("spot glass 1 5 0;spot glass 1 0 0;spot glass 1 5 0;spot glass 1 9 0;");
        Due.is("all but the clean one", x.hide(0), 0b1101);
        Due.is("5: the most only", x.hide(5), 0b1000);
        Due.is("4: three", x.hide(4), 0b1101);
        Due.is("8", x.hide(8), 0b1000);
        Due.is("9", x.hide(9), 0);
        DustReads y = Due.of("spot glass 1 7 0;");
        Due.is("one alone", y.hide(0), 0);
    }

    private static void hideIsRefused() {
        DustReads x = Due.of(ALL);
        for (int d : new int[] {-1, 10000, MOST, LEAST}) {
            Due.is("hide " + d, x.hide(d), Due.BAD);
        }
    }

    private static void learntDraught() {
        DustReads x = Due.of("spot open 5 4 0;");
        Due.lay(x, 0, 2, 99, 7, 10, 13, 99);
        Due.is("3", x.learnt(0, 1, 3, 0), 3);
        Due.is("its first", x.learnt(0, 1, 1, 0), 3);
        Due.is("none by all", x.learnt(0, 1, 4, 0), Due.NONE);
        Due.is("none from 0", x.learnt(0, 0, 2, 0), Due.NONE);
        Due.is("none from 2", x.learnt(0, 2, 1, 0), Due.NONE);
        Due.lay(x, 1, 0, 5, 9, 4, 10);
        int[] due = {1, 5, Due.NONE, Due.NONE};
        for (int i = 0; i < due.length; i++) {
            Due.is("item " + i, x.learnt(1, i, 1, 0), due[i]);
        }
        int[] twenty = new int[20];
        for (int i = 0; i < 20; i++) {
            twenty[i] = 4 + 2 * (i + 1);
        }
        Due.lay(x, 2, 1, twenty);
        Due.is("twenty", x.learnt(2, 0, 20, 0), 2);
        x.set(2, 19, 45);
        Due.is("not the last", x.learnt(2, 0, 20, 0), Due.NONE);
        Due.is("nineteen", x.learnt(2, 0, 19, 0), 2);
        x.hours(1);
        Due.is("from what is there now on", x.learnt(1, 3, 1, 0), 1);
    }

    private static void learntInSorts() {
        DustReads x = Due.of("spot corner 1 0 0;spot glass 5 3 0;spot hearth 1 0 0;spot window 1 2 0;");
        Due.lay(x, 0, 0, 1, 3, 4, 6);
        Due.is("corner of 3", x.learnt(0, 0, 4, 0), 3);
        Due.is("2 and 3 would do: the least", x.learnt(0, 0, 1, 0), 2);
        x.hours(1);
        Due.lay(x, 1, 0, 2);
        Due.is("corner in an odd hour", x.learnt(1, 0, 1, 0), 3);
        Due.lay(x, 2, 0, 3, 3, 3);
        Due.is("glass: the least", x.learnt(2, 0, 3, 1), 1);
        Due.is("not under glass", x.learnt(1, 0, 1, 1), Due.NONE);
        x.hours(3);
        Due.lay(x, 3, 0, 16, 24, 28, 32);
        Due.is("hearth ahead of 6 and behind", x.learnt(3, 0, 4, 2), 4);
        Due.lay(x, 4, 0, 11, 16);
        Due.is("window", x.learnt(4, 0, 2, 3), 5);
        x.take(3, 1);
        x.hours(2);
        Due.lay(x, 5, 0, 2, 3);
        Due.is("back again", x.learnt(5, 0, 2, 3), 1);
    }

    private static void learntIsRefused() {
        DustReads x = Due.of("spot open 1 0 0;");
        int[][] wrong = {{-1, 0, 1, 0}, {8, 0, 1, 0}, {0, 0, 0, 0}, {0, 0, 21, 0}, {0, 0, -1, 0}, {0, 0, MOST, 0},
            {0, 0, 1, 1}, {0, 0, 1, -1}, {MOST, MOST, MOST, MOST}, {LEAST, LEAST, LEAST, LEAST}};
        for (int[] w : wrong) {
            Due.is("learnt " + w[0] + " " + w[2] + " " + w[3], x.learnt(w[0], w[1], w[2], w[3]), Due.BAD);
        }
        Due.is("status yet", x.status(), 0);
        Due.is("missing", x.learnt(0, 0, 1, 0), Due.NULL);
        Due.is("its status", x.status(), 1);
        Due.is("missing ahead of place", x.learnt(0, -1, 1, 0), Due.NULL);
        Due.is("BAD", x.learnt(8, 0, 1, 0), Due.BAD);
        Due.is("leaves status", x.status(), 1);
        Due.lay(x, 0, 0, 1, 2, 3);
        int[][] places = {{-1, 1}, {3, 1}, {2, 2}, {0, 4}, {MOST, 20}, {LEAST, 1}};
        for (int[] p : places) {
            Due.is("learnt from " + p[0] + ", " + p[1], x.learnt(0, p[0], p[1], 0), Due.PLACE);
            Due.is("its status", x.status(), 2);
        }
        x.take(0, 1);
        Due.is("out", x.learnt(0, 0, 1, 0), Due.STATE);
        Due.is("out ahead of missing", x.learnt(1, 0, 1, 0), Due.STATE);
        Due.is("BAD ahead of out", x.learnt(0, 0, 0, 0), Due.BAD);
        Due.is("STATE leaves status", x.status(), 2);
        x.hours(1);
        Due.is("to the end", x.learnt(0, 0, 3, 0), 1);
        Due.is("status", x.status(), 0);
        x.set(0, 9, 0);
        Due.is("none", x.learnt(0, 1, 2, 0), Due.NONE);
        Due.is("no finding", x.status(), 0);
    }

    private static void nothingChanges() {
        DustReads x = Due.of(ALL);
        x.hours(7);
        x.take(2, 9);
        Due.lay(x, 0, 0, 1, 2, 3);
        StringBuilder ahead = new StringBuilder();
        StringBuilder behind = new StringBuilder();
        describe(x, ahead);
        x.ahead(0, 99, 0);
        x.ahead(2, 99, 1);
        x.when(0, 3, 0);
        x.who(0, 3, 1);
        x.oneHand(31);
        x.moved();
        x.like(2, 4);
        x.hide(1);
        x.learnt(0, 0, 3, 1);
        describe(x, behind);
        Due.is("nothing is another", ahead.toString().equals(behind.toString()) ? 1 : 0, 1);
    }

    private static void describe(DustReads x, StringBuilder text) {
        for (int s = 0; s < 5; s++) {
            for (int what = 0; what < 5; what++) {
                text.append(x.spot(s, what)).append(' ');
            }
        }
        for (int what = 0; what < 7; what++) {
            text.append(x.count(what)).append(' ');
        }
    }
}
