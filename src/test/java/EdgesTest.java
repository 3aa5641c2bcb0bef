/** Each sentence of the promises and of "Terms" that names an end of something, in the document's order. */
final class EdgesTest {
    private static final int MOST = Calls.MOST, LEAST = Calls.LEAST;
    private static final String ONE = "spot open 1 0 0;";
    private static final String SORTS =
        "spot open 5 0 0;spot window 4 0 0;spot corner 3 0 0;spot glass 2 0 0;spot hearth 1 0 0;";

    public static void main(String[] args) {
        rows();
        tape();
        texts();
        hoursAndDays();
        acts();
        foretold();
        imagesAndAsks();
        counts();
        Due.end("EdgesTest");
    }

    private static void rows() {
        rowsHave0To40Items();
        itemsAre0AtFirst();
        lanesWrapAround();
        copyToBothEnds();
        copyAsTheyWereAhead();
        dropOfEmptyAndFull();
        eachSize();
    }

    private static void tape() {
        feedTakes1To8();
        tapeHas400();
        tapeIsEmptyBehindReading();
        faultBeforeAndBehind();
    }

    private static void texts() {
        numbersHave3Figures();
        blanksAreTwoBytes();
        noneIsNeeded();
        spots1To7();
        readers0To4();
        numbersAsTold();
        firstTokenThatHasOne();
        ofOneTokenTheLeast();
        anotherLibrary();
    }

    private static void hoursAndDays() {
        dayWrapsAround();
        hoursTo999();
        fallTo999();
        outForSoManyHours();
        mostDustThatCanBe();
    }

    private static void acts() {
        acts24();
        actsByWhichNothingBecomesAnother();
        undoOfEachAct();
        changedTwiceIsAsItWas();
        maidOfNoneAndAll();
    }

    private static void foretold() {
        aheadBy0And99();
        whenFromHour0ToThisOne();
        whenOutDoesNotMatter();
        whoAtTheEndsOfHisHours();
        whoWhereNoHourIs();
        handsOfNoneAndAll();
        handsForSevenSpots();
        movedNoneAndAll();
        likeBehind0And99();
        hideByJustSoMuch();
        learntDraught1To5();
        learntOf1And20();
        learntByWholeNumbers();
    }

    private static void imagesAndAsks() {
        imagesStandAlone();
        restoredAgain();
        keptInTheLastHour();
        traceIsEmptyAhead();
        traceHasAnEnd();
        kindsThatItIsToo();
    }

    // ---- rows

    /** ROWS 0 .. 7; 0 to 40 ITEMS; in place of what is there; PLACE behind the last. */
    private static void rowsHave0To40Items() {
        DustReads x = new DustReads();
        for (int row = 0; row < 8; row++) {
            Due.is("40", x.row(row, row % 3, 40), 40);
            Due.is("the first", x.set(row, 0, 1), 1);
            Due.is("the last", x.set(row, 39, 2), 2);
            Due.is("behind it", x.set(row, 40, 2), Due.PLACE);
            Due.is("ahead of the first", x.set(row, -1, 2), Due.PLACE);
        }
        Due.is("all rows", x.count(0), 8);
        Due.is("one more", x.row(8, 0, 0), Due.BAD);
        Due.is("1 in place of 40", x.row(7, 0, 1), 1);
        Due.is("its last", x.set(7, 0, 3), 3);
        Due.is("40 are gone", x.set(7, 1, 3), Due.PLACE);
        Due.is("0 in place of 1", x.row(7, 0, 0), 0);
        Due.is("it has none", x.set(7, 0, 3), Due.PLACE);
        Due.is("but is there", x.count(0), 8);
        Due.is("and is no missing one", x.copy(7, 0, 7, 0, 0), 0);
    }

    /** ITEMS are 0 at first, also where a ROW comes in place of another, or of one that was dropped. */
    private static void itemsAre0AtFirst() {
        DustReads x = Due.of("spot glass 1 0 0;");
        Due.lay(x, 0, 2, 5, 6, 7);
        Due.lay(x, 1, 2, 5, 6, 7);
        x.drop(1);
        for (int row = 0; row < 3; row++) {
            x.row(row, 1, 20);
            Due.is("all 0 in row " + row, x.learnt(row, 0, 20, 0), 1);
        }
        x.row(0, 0, 40);
        Due.is("the last 20", x.learnt(0, 20, 20, 0), 1);
    }

    private static void lanesWrapAround() {
        int[][] ends = {{127, 127, 127}, {128, -128, 128}, {-128, -128, -128}, {-129, 127, -129},
            {32767, -1, 32767}, {32768, 0, -32768}, {-32768, 0, -32768}, {-32769, -1, 32767},
            {MOST, -1, -1}, {LEAST, 0, 0}};
        DustReads x = new DustReads();
        for (int lane = 0; lane < 3; lane++) {
            x.row(lane, lane, 1);
        }
        for (int[] e : ends) {
            Due.is("byte of " + e[0], x.set(0, 0, e[0]), e[1]);
            Due.is("short of " + e[0], x.set(1, 0, e[0]), e[2]);
            Due.is("int of " + e[0], x.set(2, 0, e[0]), e[0]);
        }
    }

    private static void copyToBothEnds() {
        DustReads x = new DustReads();
        x.row(0, 1, 40);
        x.row(1, 1, 40);
        x.row(2, 1, 0);
        Due.is("all", x.copy(0, 0, 1, 0, 40), 40);
        Due.is("one more", x.copy(0, 0, 1, 0, 41), Due.PLACE);
        Due.is("the last to the first", x.copy(0, 39, 1, 0, 1), 1);
        Due.is("the first to the last", x.copy(0, 0, 1, 39, 1), 1);
        Due.is("beyond a's end", x.copy(0, 39, 1, 0, 2), Due.PLACE);
        Due.is("beyond b's end", x.copy(0, 0, 1, 39, 2), Due.PLACE);
        Due.is("none at both ends", x.copy(0, 40, 1, 40, 0), 0);
        Due.is("none behind a's end", x.copy(0, 41, 1, 40, 0), Due.PLACE);
        Due.is("none behind b's end", x.copy(0, 40, 1, 41, 0), Due.PLACE);
        Due.is("none of none", x.copy(2, 0, 2, 0, 0), 0);
        Due.is("one of none", x.copy(2, 0, 0, 0, 1), Due.PLACE);
        Due.is("one to none", x.copy(0, 0, 2, 0, 1), Due.PLACE);
    }

    /** They come as they were ahead, over themselves too; what is beside them stays. */
    private static void copyAsTheyWereAhead() {
        int[][] moves = {{0, 1, 4, 1, 1, 2, 3, 4}, {1, 0, 4, 2, 3, 4, 5, 5}, {0, 3, 2, 1, 2, 3, 1, 2},
            {2, 2, 3, 1, 2, 3, 4, 5}, {4, 0, 1, 5, 2, 3, 4, 5}, {0, 0, 5, 1, 2, 3, 4, 5}};
        for (int[] m : moves) {
            DustReads x = new DustReads();
            Due.lay(x, 0, 0, 1, 2, 3, 4, 5);
            Due.is("copied", x.copy(0, m[0], 0, m[1], m[2]), m[2]);
            for (int i = 0; i < 5; i++) {
                Due.read(x, "spot glass 1 " + m[3 + i] + " 0;");
                Due.is(m[2] + " from " + m[0] + " to " + m[1] + ": item " + i, x.learnt(0, i, 1, 0), 1);
            }
        }
    }

    private static void dropOfEmptyAndFull() {
        DustReads x = new DustReads();
        x.row(0, 2, 40);
        x.row(7, 0, 0);
        Due.is("40", x.drop(0), 40);
        Due.is("0", x.drop(7), 0);
        Due.is("missing then", x.drop(7), Due.NULL);
        Due.is("again", x.row(7, 1, 1), 1);
        Due.is("dropped again", x.drop(7), 1);
    }

    private static void eachSize() {
        for (int lane = 0; lane < 3; lane++) {
            DustReads x = new DustReads();
            x.row(1, lane, 40);
            for (int n = 0; n <= 40; n++) {
                Due.is("row of " + n, x.row(0, lane, n), n);
                Due.is("copy of " + n, x.copy(1, 40 - n, 0, 0, n), n);
                Due.is("back", x.copy(0, 0, 1, 0, n), n);
                Due.is("one more", x.copy(0, 0, 1, 0, n + 1), Due.PLACE);
                Due.is("behind the last", x.set(0, n, 1), Due.PLACE);
                Due.is("drop of " + n, x.drop(0), n);
            }
        }
    }

    // ---- the tape

    /** The lowest n bytes of w (1 to 8), the highest of them first. */
    private static void feedTakes1To8() {
        String text = "spot glass 1 0 0;";
        for (int n = 1; n <= 8; n++) {
            DustReads x = new DustReads();
            // What stands ahead of the lowest n bytes does not come.
            long w = -1;
            for (int k = 0; k < n; k++) {
                w = w << 8 | text.charAt(k);
            }
            Due.is("feed " + n, x.feed(w, n), n);
            Due.feed(x, text.substring(n));
            Due.is("read " + n, x.library(), 1);
        }
        DustReads x = new DustReads();
        Due.is("below 0", x.feed(Long.MIN_VALUE | ' ', 8), 8);
        Due.is("its first byte is none", x.library(), -1000100);
        Due.is("its last", x.feed(Long.MIN_VALUE | ' ', 1), 1);
        Due.is("is a blank", x.library(), -1000101);
    }

    /** THE TAPE has at most 400 bytes; FULL: none comes. */
    private static void tapeHas400() {
        for (int n = 1; n <= 8; n++) {
            DustReads x = new DustReads();
            Due.feed(x, " ".repeat(400 - n));
            Due.is("400 by " + n, x.feed(0x2020202020202020L, n), 400);
            Due.is("one more", x.feed(32, 1), Due.FULL);
            Due.is("400 stay", x.count(6), 400);
            Due.is("the end is at 400", x.library(), -1000500);
            Due.feed(x, ONE + " ".repeat(401 - n - ONE.length()));
            Due.is("401 by " + n, x.feed(~0L, n), Due.FULL);
            Due.is("none came", x.count(6), 401 - n);
            Due.is("it is read", x.library(), 1);
        }
    }

    /** The tape is empty then, behind a FAULT and behind none. */
    private static void tapeIsEmptyBehindReading() {
        DustReads x = Due.of(ONE);
        Due.is("empty", x.count(6), 0);
        Due.is("a fault at its end, 0", x.library(), -1000100);
        Due.is("of number 1", x.fault(), 1);
        Due.is("fault", Due.read(x, ONE + "spot"), -1000120);
        Due.is("empty", x.count(6), 0);
        Due.is("what came first is gone", Due.read(x, ";"), -1000100);
        Due.is("the library stays", x.count(1), 1);
    }

    /** 0 before a FAULT; the latest from then on. */
    private static void faultBeforeAndBehind() {
        DustReads x = new DustReads();
        Due.read(x, ONE);
        Due.is("none yet", x.fault(), 0);
        Due.read(x, ONE.repeat(8));
        Due.is("3", x.fault(), 3);
        Due.read(x, ONE);
        Due.is("3 yet", x.fault(), 3);
        Due.read(x, "spot open 6 0 0;");
        Due.is("2", x.fault(), 2);
        Due.read(x, "");
        Due.is("1", x.fault(), 1);
    }

    // ---- texts

    private static void reads(String text, int spots) {
        Due.is("library of '" + text + "'", Due.read(new DustReads(), text), spots);
    }

    private static void faulty(String text, int place, int number) {
        DustReads x = new DustReads();
        Due.is("library of '" + text + "'", Due.read(x, text), -1000100 - place);
        Due.is("fault of '" + text + "'", x.fault(), number);
        Due.is("no library of '" + text + "'", x.count(1), 0);
    }

    /** NUMBERS (figures, 3 at most); four or more are none, at their first. */
    private static void numbersHave3Figures() {
        reads("spot open 001 000 099;reader 000 023;", 1);
        reads("spot open 05 00 09;reader 0 00;", 1);
        faulty("spot open 0001 0 0;", 10, 1);
        faulty("spot open 1 0000 0;", 12, 1);
        faulty("spot open 1 0 0000;", 14, 1);
        faulty("spot open 1 0 00000000000000000000000;", 14, 1);
        faulty("spot open 4294967297 0 0;", 10, 1);
        faulty(ONE + "reader 0000 1;", 23, 1);
        faulty(ONE + "reader 0 0001;", 25, 1);
    }

    private static void blanksAreTwoBytes() {
        for (int code = 0; code < 256; code++) {
            char c = (char) code;
            boolean blank = code == 32 || code == 10;
            boolean letter = c >= 'a' && c <= 'z';
            if (blank) {
                reads(" spot  open 1 0 0 ;  reader 1 1 ; ".replace(' ', c), 1);
            } else {
                faulty(c + ONE, 0, 1);
                faulty("spot open 1 0 " + (c == ';' ? "" : "0 ") + c, c == ';' ? 14 : 16, 1);
                faulty(ONE + c, 16, 1);
                faulty("spot" + c + "open 1 0 0;", letter ? 0 : 4, 1);
            }
        }
        faulty(" \n \n", 4, 1);
    }

    /** None is needed where one TOKEN ends without. */
    private static void noneIsNeeded() {
        reads("spot open1 2 3;spot glass4 5 6;reader7 8;reader9 10;", 2);
        faulty("spotopen 1 2 3;", 0, 1);
        faulty("spot open12 3;", 9, 2);
        faulty("spot open 123;", 10, 2);
        faulty("spot open 1 2345;", 12, 1);
        faulty("spot open 1 23;", 14, 1);
    }

    private static void spots1To7() {
        for (int n = 1; n <= 7; n++) {
            reads(ONE.repeat(n), n);
        }
        faulty("", 0, 1);
        faulty("reader 0 0;", 0, 1);
        faulty(ONE.repeat(8), 112, 3);
        faulty(ONE.repeat(7) + "\n spot", 114, 3);
    }

    private static void readers0To4() {
        for (int n = 0; n <= 4; n++) {
            DustReads x = Due.of(ONE + "reader 0 0;".repeat(n));
            Due.is("readers", x.count(2), n);
            Due.is("all of them", x.oneHand(0), (1 << n) - 1);
        }
        faulty(ONE + "reader 0 0;".repeat(5), 60, 3);
        faulty(ONE + "reader 0 0;".repeat(4) + " reader", 61, 3);
        faulty(ONE.repeat(7) + "reader 0 0;".repeat(5), 156, 3);
    }

    /** 1 to 5; 0 to 99 both; 0 to 23; FROM to 23. */
    private static void numbersAsTold() {
        for (int n : new int[] {1, 2, 3, 4, 5}) {
            reads("spot hearth " + n + " 0 0;", 1);
        }
        for (int n : new int[] {0, 6, 7, 10, 15, 99, 100, 999}) {
            faulty("spot hearth " + n + " 0 0;", 12, 2);
        }
        reads("spot corner 1 99 99;", 1);
        for (int n : new int[] {100, 101, 255, 256, 999}) {
            faulty("spot corner 1 " + n + " 0;", 14, 2);
            faulty("spot corner 1 0 " + n + ";", 16, 2);
        }
        for (int from = 0; from <= 23; from++) {
            reads(ONE + "reader " + from + " " + from + ";reader " + from + " 23;", 1);
            if (from > 0) {
                faulty(ONE + "reader " + from + " " + (from - 1) + ";", from < 10 ? 25 : 26, 2);
            }
        }
        for (int n : new int[] {24, 25, 47, 100, 999}) {
            faulty(ONE + "reader " + n + " " + n + ";", 23, 2);
            faulty(ONE + "reader 0 " + n + ";", 25, 2);
        }
    }

    private static void firstTokenThatHasOne() {
        faulty("spot open 6 100 ;", 10, 2);
        faulty("spot open 1 100 1000;", 12, 2);
        faulty("spot open 1 x 100;", 12, 1);
        faulty("spot open 1 0 100 " + ONE.repeat(8), 14, 2);
        faulty(ONE.repeat(7) + "spot glas 9 9 9", 112, 3);
        faulty(ONE + "reader 24 5;", 23, 2);
        faulty(ONE + "reader 5 4", 25, 2);
        faulty(ONE + "reader x 24;", 23, 1);
    }

    /** 1 ahead of 2 ahead of 3. */
    private static void ofOneTokenTheLeast() {
        faulty("spot open 1 9999 0;", 12, 1);
        faulty("spot 6 6 0 0;", 5, 1);
        faulty(ONE.repeat(7) + "reader 0 0;spot", 123, 1);
        faulty(ONE.repeat(7) + "spots", 112, 1);
        faulty(ONE.repeat(7) + "open", 112, 1);
        faulty(ONE + "reader 0 0;".repeat(4) + "readers", 60, 1);
        faulty(ONE + "reader 0 reader 0;", 25, 1);
    }

    /** In place of the one before: HOUR 0; no BOOK is out; no ACT can be undone; IMAGES and ROWS stay. */
    private static void anotherLibrary() {
        DustReads x = Due.of(SORTS + "reader 0 0;reader 1 1;");
        x.hours(24);
        x.image(0);
        x.row(4, 0, 9);
        x.change(0, 4);
        x.take(1, 48);
        Due.is("read", Due.read(x, "spot open 2 3 4;spot glass 1 5 6;"), 2);
        int[] due = {1, 2, 0, 0, 0, 0, 0};
        for (int what = 0; what < 7; what++) {
            Due.is("count " + what, x.count(what), due[what]);
        }
        Due.is("no act", x.undo(), Due.STATE);
        Due.is("none moved", x.moved(), 0);
        Due.is("no second image", x.restore(1), Due.STATE);
        x.hours(1);
        Due.is("its first hour", x.spot(0, 1), 5);
        Due.is("the image stays", x.restore(0), 1);
        Due.is("at its hour", x.count(3), 24);
        Due.is("row 4 stays", x.drop(4), 9);
    }

    // ---- hours

    /** The hour of the day is HOUR left over by 24. */
    private static void dayWrapsAround() {
        int[] turns = {0, 5, 6, 17, 18, 23, 24, 29, 30, 41, 42, 47, 48, 966, 977, 978, 983, 984, 989, 990, 999};
        DustReads x = Due.of(SORTS);
        for (int t : turns) {
            boolean light = t % 24 >= 6 && t % 24 <= 17;
            Due.is("hearth in " + t, x.fall(4, t, 0), light ? 1 : 2);
            Due.is("sun in " + t, x.fall(1, t, 1), light ? 1 : 0);
            Due.is("corner in " + t, x.fall(2, t, 0), 1 + t % 2);
            Due.is("open in " + t, x.fall(0, t, 0), 5);
            Due.is("window in " + t, x.fall(1, t, 0), 4);
            Due.is("glass in " + t, x.fall(3, t, 0), 0);
            for (int s : new int[] {0, 2, 3, 4}) {
                Due.is("no sun at " + s + " in " + t, x.fall(s, t, 1), 0);
            }
        }
    }

    /** FULL: more than 999; then none of the HOURS goes by. */
    private static void hoursTo999() {
        DustReads x = Due.of(ONE);
        Due.is("no hour", x.hours(0), Due.BAD);
        Due.is("one", x.hours(1), 1);
        Due.is("24", x.hours(24), 25);
        Due.is("25", x.hours(25), Due.BAD);
        Due.pass(x, 999 - 25 - 24);
        Due.is("to 999", x.hours(24), 999);
        Due.is("one more", x.hours(1), Due.FULL);
        Due.is("an hour undone", x.undo(), 23);
        Due.is("two more", x.hours(2), Due.FULL);
        Due.is("none of them", x.count(3), 998);
        Due.is("and no act", x.count(4), 23);
        Due.is("one", x.hours(1), 999);
        Due.is("dust of each", x.spot(0, 1), 999);
    }

    private static void fallTo999() {
        DustReads x = Due.of(SORTS);
        Due.pass(x, 999);
        Due.is("hour 0", x.fall(2, 0, 0), 1);
        Due.is("hour 999", x.fall(2, 999, 0), 2);
        Due.is("ahead of 0", x.fall(2, -1, 0), Due.BAD);
        Due.is("behind 999", x.fall(2, 1000, 0), Due.BAD);
        x.take(2, 3);
        Due.is("what is out does not matter", x.fall(2, 999, 0), 2);
    }

    /** TAKEN for 1, for 48: so many HOURS OUT, then DUST and SUN again. */
    private static void outForSoManyHours() {
        for (int n : new int[] {1, 2, 47, 48}) {
            DustReads x = Due.of("spot window 3 9 0;");
            x.hours(6);
            Due.is("taken", x.take(0, n), 27);
            for (int left = n; left > 0; left--) {
                Due.is("out for yet", x.spot(0, 4), left);
                Due.is("one out", x.count(5), 1);
                x.hours(1);
                Due.is("no dust", x.spot(0, 1), 0);
                Due.is("not faded", x.spot(0, 3), 0);
            }
            Due.is("it stands", x.spot(0, 4), 0);
            Due.is("none out", x.count(5), 0);
            boolean light = (6 + n) % 24 >= 6 && (6 + n) % 24 <= 17;
            x.hours(1);
            Due.is("dust again", x.spot(0, 1), 3);
            Due.is("faded again", x.spot(0, 3), light ? 1 : 0);
            Due.is("taken again", x.take(0, 1), 3);
        }
    }

    /** 9999 at most: no run of calls comes so far, what comes farthest is not cut. */
    private static void mostDustThatCanBe() {
        DustReads x = Due.of("spot hearth 5 99 99;spot window 5 99 99;");
        Due.pass(x, 999);
        // 41 days of 12 hours by 5 and 12 by 10; of the last day 15 hours, 6 of them by 10.
        Due.is("hearth", x.spot(0, 1), 99 + 41 * 180 + 6 * 10 + 9 * 5);
        Due.is("window", x.spot(1, 1), 99 + 999 * 5);
        Due.is("faded", x.spot(1, 3), 99 + 41 * 12 + 9);
        Due.is("the maid's", x.dusts(3), 99 + 41 * 180 + 6 * 10 + 9 * 5 + 99 + 999 * 5);
    }

    // ---- acts

    /** 24 ACTS at most are kept, of more the oldest is forgotten. */
    private static void acts24() {
        for (int more = 0; more < 60; more++) {
            DustReads x = Due.of("spot open 1 0 0;spot open 2 0 0;");
            Due.pass(x, 23 + more);
            int kept = Math.min(24, 23 + more);
            Due.is("kept", x.count(4), kept);
            x.change(0, 1);
            Due.is("one more", x.count(4), 24);
            Due.is("the latest first", x.undo(), 23);
            Due.is("dust is back", x.spot(1, 1), 2 * (23 + more));
            for (int left = 22; left >= 0; left--) {
                Due.is("undo", x.undo(), left);
            }
            Due.is("none", x.undo(), Due.STATE);
            Due.is("the hour then", x.count(3), more);
            Due.is("the dust then", x.spot(0, 1), more);
        }
    }

    /** Each can be undone, also such by which nothing becomes another. */
    private static void actsByWhichNothingBecomesAnother() {
        DustReads x = Due.of("spot glass 1 0 0;spot open 1 0 0;");
        Due.is("none", x.dusts(0), 0);
        Due.is("an act", x.count(4), 1);
        Due.is("what is clean", x.dusts(3), 0);
        Due.is("an act", x.count(4), 2);
        Due.is("undone", x.undo(), 1);
        Due.is("undone", x.undo(), 0);
        x.take(0, 1);
        x.dusts(1);
        Due.is("what is out", x.count(4), 2);
        Due.is("undone", x.undo(), 1);
        Due.is("out yet", x.spot(0, 4), 1);
        for (int k = 0; k < 30; k++) {
            x.dusts(0);
        }
        Due.is("they push others out", x.count(4), 24);
        while (x.undo() > 0) {
            Due.is("hour 0", x.count(3), 0);
        }
        Due.is("the take is forgotten", x.spot(0, 4), 1);
    }

    private static void undoOfEachAct() {
        DustReads x = Due.of("spot window 2 8 1;spot corner 3 6 9;");
        x.hours(7);
        Due.is("take", x.take(0, 5), 22);
        Due.is("undone", x.undo(), 7);
        Due.is("dust", x.spot(0, 1), 22);
        Due.is("stands", x.spot(0, 4), 0);
        Due.is("change", x.change(0, 1), 1);
        Due.is("undone", x.undo(), 7);
        Due.is("book", x.spot(0, 2), 0);
        Due.is("faded", x.spot(0, 3), 2);
        Due.is("dust", x.spot(1, 1), 16);
        Due.is("dusts", x.dusts(3), 38);
        Due.is("undone", x.undo(), 7);
        Due.is("dust", x.spot(0, 1) + x.spot(1, 1), 38);
        Due.is("an hour undone", x.undo(), 6);
        Due.is("hour", x.count(3), 6);
        Due.is("faded", x.spot(0, 3), 1);
        Due.is("dust", x.spot(0, 1), 20);
        x.take(0, 1);
        x.hours(1);
        Due.is("back", x.count(5), 0);
        x.undo();
        Due.is("out again", x.count(5), 1);
        Due.is("for one", x.spot(0, 4), 1);
    }

    private static void changedTwiceIsAsItWas() {
        DustReads x = Due.of("spot open 1 7 1;spot open 1 0 2;");
        Due.is("1 is in 0", x.change(0, 1), 1);
        Due.is("0 is in 0", x.change(1, 0), 1);
        Due.is("none moved", x.moved(), 0);
        Due.is("neither has dust", x.spot(0, 1) + x.spot(1, 1), 0);
        Due.is("faded", x.spot(0, 3), 1);
        Due.is("two acts", x.count(4), 2);
    }

    private static void maidOfNoneAndAll() {
        String text = "";
        for (int s = 1; s <= 7; s++) {
            text += "spot glass 1 " + (1 << s - 1) + " 0;";
        }
        for (int set = 0; set < 128; set++) {
            DustReads x = Due.of(text);
            Due.is("dusts " + set, x.dusts(set), set);
            Due.is("the rest", x.dusts(127), 127 - set);
        }
    }

    // ---- foretold

    /** AHEAD by 0 to 99, also from hour 999 on; OUT for all of them, for all but one. */
    private static void aheadBy0And99() {
        DustReads x = Due.of("spot window 2 7 9;spot window 1 99 99;");
        Due.is("dust by 0", x.ahead(0, 0, 0), 7);
        Due.is("faded by 0", x.ahead(0, 0, 1), 9);
        Due.is("dust by 99", x.ahead(0, 99, 0), 205);
        Due.is("faded by 99", x.ahead(0, 99, 1), 9 + 48);
        x.take(0, 48);
        Due.is("out for all", x.ahead(0, 48, 0), 0);
        Due.is("for all but one", x.ahead(0, 49, 0), 2);
        Due.is("99", x.ahead(0, 99, 0), 102);
        Due.is("not faded", x.ahead(0, 54, 1), 9);
        Due.is("faded", x.ahead(0, 55, 1), 10);
        Due.pass(x, 999);
        Due.is("from 999 on", x.ahead(1, 99, 0), 99 + 999 + 99);
        Due.is("sun behind it", x.ahead(1, 99, 1) - x.spot(1, 3), 12 * 4 + 3);
        Due.is("nothing went by", x.count(3), 999);
    }

    private static void whenIs(DustReads x, int spot, int dust, int first, int last) {
        Due.is("first by " + dust, x.when(spot, dust, 0), first);
        Due.is("last by " + dust, x.when(spot, dust, 1), last);
    }

    /** HOURS from 0 to this one; in this one not yet. */
    private static void whenFromHour0ToThisOne() {
        DustReads x = Due.of("spot open 2 0 0;spot glass 1 0 0;spot corner 1 0 0;");
        whenIs(x, 0, 0, 0, 0);
        whenIs(x, 0, 2, Due.NONE, Due.NONE);
        whenIs(x, 1, 0, 0, 0);
        whenIs(x, 2, 0, 0, 0);
        x.hours(1);
        whenIs(x, 0, 0, 1, 1);
        whenIs(x, 0, 2, 0, 0);
        whenIs(x, 0, 1, Due.NONE, Due.NONE);
        whenIs(x, 0, 4, Due.NONE, Due.NONE);
        whenIs(x, 1, 0, 0, 1);
        whenIs(x, 1, 1, Due.NONE, Due.NONE);
        whenIs(x, 2, 0, 0, 1);
        x.hours(1);
        whenIs(x, 2, 0, 2, 2);
        whenIs(x, 2, 1, 0, 1);
        Due.pass(x, 997);
        whenIs(x, 0, 0, 999, 999);
        whenIs(x, 0, 1998, 0, 0);
        whenIs(x, 0, 2000, Due.NONE, Due.NONE);
        whenIs(x, 0, 9999, Due.NONE, Due.NONE);
        whenIs(x, 1, 0, 0, 999);
        whenIs(x, 2, 499, 0, 1);
        whenIs(x, 2, 0, 998, 999);
    }

    private static void whenOutDoesNotMatter() {
        DustReads x = Due.of("spot open 2 0 0;");
        x.hours(3);
        x.take(0, 2);
        x.hours(3);
        Due.is("its dust", x.spot(0, 1), 2);
        whenIs(x, 0, 2, 5, 5);
        whenIs(x, 0, 6, 3, 3);
        x.take(0, 48);
        whenIs(x, 0, 0, 6, 6);
        whenIs(x, 0, 12, 0, 0);
    }

    /** FROM and TO, both too, of each day. */
    private static void whoAtTheEndsOfHisHours() {
        DustReads x = Due.of("spot open 1 0 0;reader 0 0;reader 23 23;reader 5 7;reader 0 23;");
        for (int hour = 0; hour <= 48; hour++) {
            int day = hour % 24;
            int due = 8 | (day == 0 ? 1 : 0) | (day == 23 ? 2 : 0) | (day >= 5 && day <= 7 ? 4 : 0);
            Due.is("who in " + hour, x.who(0, 0, 0), due);
            Due.is("by an hour's dust", x.who(0, 1, 1), hour == 0 ? Due.NONE : x.who(0, 1, 0));
            x.hours(1);
            Due.is("who an hour before " + (hour + 1), x.who(0, 1, 1), due);
        }
    }

    private static void whoWhereNoHourIs() {
        DustReads x = Due.of("spot open 2 0 0;spot glass 1 0 0;reader 3 4;");
        for (int what = 0; what < 2; what++) {
            Due.is("none", x.who(0, 1, what), Due.NONE);
            Due.is("hour 0, nobody", x.who(0, 0, what), 0);
            Due.is("9999", x.who(0, 9999, what), Due.NONE);
        }
        x.hours(3);
        Due.is("0 to 3, in one", x.who(1, 0, 0), 1);
        Due.is("0 to 3, in each", x.who(1, 0, 1), 0);
        DustReads y = Due.of("spot glass 2 0 0;reader 0 23;reader 1 23;reader 0 22;");
        y.hours(22);
        Due.is("0 to 22, in each", y.who(0, 0, 1), 0b101);
        y.hours(1);
        Due.is("0 to 23, in each", y.who(0, 0, 1), 0b001);
        Due.is("0 to 23, in one", y.who(0, 0, 0), 0b111);
        DustReads z = Due.of("spot open 2 0 0;");
        Due.is("there are no readers", z.who(0, 0, 0), 0);
        Due.is("nor in each", z.who(0, 0, 1), 0);
        Due.is("no hour all the same", z.who(0, 1, 1), Due.NONE);
    }

    /** All READERS for no SPOT; nobody, where one has no such HOUR. */
    private static void handsOfNoneAndAll() {
        DustReads x = Due.of("spot open 1 0 0;spot open 2 1 0;spot open 3 0 0;reader 0 0;reader 0 1;reader 1 1;");
        Due.is("no spot", x.oneHand(0), 0b111);
        Due.is("one", x.oneHand(1), 0b011);
        Due.is("no such hour", x.oneHand(2), 0);
        Due.is("nor with others", x.oneHand(7), 0);
        Due.is("without it", x.oneHand(5), 0b011);
        x.dusts(2);
        Due.is("all", x.oneHand(7), 0b011);
        x.hours(1);
        x.dusts(1);
        Due.is("0 in hour 1", x.oneHand(1), 0b110);
        Due.is("1 in hour 0", x.oneHand(2), 0b011);
        Due.is("both", x.oneHand(3), 0b010);
    }

    /** SPOT s was dusted in hour s: who comes then can have done it. */
    private static void handsForSevenSpots() {
        DustReads x = Due.of("spot open 2 0 0;".repeat(7) + "reader 0 6;reader 1 5;reader 2 23;reader 6 6;");
        int[] hands = {0b0001, 0b0011, 0b0111, 0b0111, 0b0111, 0b0111, 0b1101};
        for (int s = 0; s < 7; s++) {
            x.dusts(1 << s);
            x.hours(1);
        }
        for (int set = 0; set < 128; set++) {
            int due = 0b1111;
            for (int s = 0; s < 7; s++) {
                due &= (set >> s & 1) == 1 ? hands[s] : 0b1111;
            }
            Due.is("one hand for " + set, x.oneHand(set), due);
        }
    }

    private static void movedNoneAndAll() {
        DustReads x = Due.of(ONE.repeat(7));
        Due.is("none", x.moved(), 0);
        for (int s = 0; s < 6; s++) {
            x.change(s, s + 1);
            Due.is("moved", x.moved(), (4 << s) - 1);
        }
        for (int s = 5; s >= 0; s--) {
            x.change(s, s + 1);
            Due.is("back", x.moved(), s == 0 ? 0 : (2 << s) - 1);
        }
    }

    /** 0 to 99, the fewest; NONE. */
    private static void likeBehind0And99() {
        DustReads x = Due.of("spot open 1 0 0;spot glass 1 99 0;spot glass 1 0 0;spot glass 1 1 0;spot open 2 0 0;");
        Due.is("99", x.like(0, 1), 99);
        Due.is("0", x.like(0, 2), 0);
        Due.is("1", x.like(3, 0), 1);
        Due.is("0, the fewest", x.like(0, 4), 0);
        Due.is("never", x.like(2, 3), Due.NONE);
        Due.is("odd by two", x.like(1, 4), Due.NONE);
        x.take(0, 1);
        Due.is("100", x.like(0, 1), Due.NONE);
        x.undo();
        x.hours(1);
        Due.is("98", x.like(0, 1), 98);
        Due.pass(x, 97);
        Due.is("1", x.like(1, 0), 1);
        x.hours(1);
        Due.is("0 now", x.like(1, 0), 0);
        x.hours(1);
        Due.is("too late", x.like(1, 0), Due.NONE);
        Due.pass(x, 899);
        x.take(1, 48);
        x.take(0, 48);
        Due.is("both out", x.like(0, 1), 0);
        Due.is("from 999 on, out for 48", x.like(0, 3), 49);
    }

    /** By just d they do not differ by more; what is OUT does not stand. */
    private static void hideByJustSoMuch() {
        DustReads x = Due.of("spot glass 1 10 0;spot glass 1 30 0;spot glass 1 60 0;");
        int[][] due = {{0, 7}, {9, 7}, {10, 6}, {29, 6}, {30, 4}, {49, 4}, {50, 0}, {51, 0}, {9999, 0}};
        for (int[] d : due) {
            Due.is("hide " + d[0], x.hide(d[0]), d[1]);
        }
        x.take(2, 1);
        Due.is("20", x.hide(20), 0);
        Due.is("19", x.hide(19), 2);
        Due.is("0", x.hide(0), 3);
        x.take(1, 1);
        Due.is("one stands", x.hide(0), 0);
        x.take(0, 1);
        Due.is("none stands", x.hide(0), 0);
        x.hours(1);
        Due.is("all again, none has dust", x.hide(0), 0);
        Due.is("alike", Due.of("spot glass 1 9 0;".repeat(7)).hide(0), 0);
        DustReads y = Due.of("spot glass 1 9 0;".repeat(6) + "spot glass 1 8 0;");
        Due.is("all seven", y.hide(0), 127);
        Due.is("1", y.hide(1), 0);
    }

    /** The DRAUGHT (1 to 5); of several the least; NONE. */
    private static void learntDraught1To5() {
        DustReads x = Due.of("spot open 3 0 0;spot hearth 3 0 0;spot corner 3 0 0;spot glass 3 0 0;");
        x.row(0, 0, 1);
        int[][] due = {{0, Due.NONE, Due.NONE, 1, 1}, {1, 1, Due.NONE, 2, Due.NONE}, {2, 2, 1, 4, Due.NONE},
            {3, 3, Due.NONE, Due.NONE, Due.NONE}, {5, 5, Due.NONE, Due.NONE, Due.NONE},
            {6, Due.NONE, 3, Due.NONE, Due.NONE}, {10, Due.NONE, 5, Due.NONE, Due.NONE},
            {12, Due.NONE, Due.NONE, Due.NONE, Due.NONE},
            {-1, Due.NONE, Due.NONE, Due.NONE, Due.NONE}};
        for (int[] d : due) {
            x.set(0, 0, d[0]);
            for (int s = 0; s < 4; s++) {
                Due.is("learnt in " + s + " by " + d[0], x.learnt(0, 0, 1, s), d[s + 1]);
                Due.is("status", x.status(), 0);
            }
        }
    }

    /** n ITEMS (1 to 20) of a ROW from i on, to its end; from what is there now on. */
    private static void learntOf1And20() {
        DustReads x = Due.of("spot corner 5 3 0;");
        x.row(0, 2, 21);
        x.set(0, 0, -77);
        for (int n = 1; n <= 20; n++) {
            x.set(0, n, x.ahead(0, n, 0));
        }
        Due.is("20", x.learnt(0, 1, 20, 0), 5);
        Due.is("1 of hour 0: the least", x.learnt(0, 1, 1, 0), 4);
        Due.is("beyond the end", x.learnt(0, 2, 20, 0), Due.PLACE);
        Due.is("not from 0", x.learnt(0, 0, 1, 0), Due.NONE);
        for (int n = 2; n <= 19; n++) {
            Due.is(n + " of it", x.learnt(0, 1, n, 0), 5);
        }
        Due.is("21", x.learnt(0, 0, 21, 0), Due.BAD);
        x.hours(1);
        Due.is("from hour 1 on", x.learnt(0, 2, 19, 0), 5);
        Due.is("the last alone", x.learnt(0, 20, 1, 0), Due.NONE);
        x.set(0, 20, 99);
        Due.is("the last counts", x.learnt(0, 2, 19, 0), Due.NONE);
        Due.is("behind the last", x.learnt(0, 21, 1, 0), Due.PLACE);
        x.row(0, 2, 40);
        x.set(0, 39, 5 + 3);
        Due.is("item 39", x.learnt(0, 39, 1, 0), 5);
        Due.is("and one more", x.learnt(0, 39, 2, 0), Due.PLACE);
        x.row(0, 2, 0);
        Due.is("a row of none", x.learnt(0, 0, 1, 0), Due.PLACE);
    }

    /** DUST beyond what a byte holds is told by wider LANES alone, and by just its number. */
    private static void learntByWholeNumbers() {
        DustReads x = Due.of("spot glass 1 99 0;spot open 5 99 0;");
        Due.pass(x, 40);
        Due.is("its dust", x.spot(1, 1), 299);
        for (int lane = 0; lane < 3; lane++) {
            x.row(lane, lane, 1);
            x.set(lane, 0, 303);
            Due.is("303 in lane " + lane, x.learnt(lane, 0, 1, 1), lane == 0 ? Due.NONE : 4);
            x.set(lane, 0, 303 + 65536);
            Due.is("303 and 65536 in lane " + lane, x.learnt(lane, 0, 1, 1), lane == 1 ? 4 : Due.NONE);
        }
        for (int wrong : new int[] {303 - 256, 303 + 256, -303, 304 + (1 << 30), 298, 299, 305}) {
            x.set(2, 0, wrong);
            Due.is("by " + wrong, x.learnt(2, 0, 1, 1), Due.NONE);
            Due.is("by " + wrong, x.learnt(2, 0, 1, 0), Due.NONE);
        }
    }

    // ---- images, asks

    private static void imagesStandAlone() {
        DustReads x = Due.of(ONE);
        Due.is("none was kept", x.restore(0), Due.STATE);
        Due.is("image 1", x.image(1), 1);
        Due.is("still none in 0", x.restore(0), Due.STATE);
        x.hours(2);
        Due.is("image 0", x.image(0), 1);
        Due.is("acts stay", x.count(4), 2);
        x.hours(1);
        Due.is("1 is of hour 0", x.restore(1), 1);
        Due.is("hour", x.count(3), 0);
        Due.is("none to undo", x.undo(), Due.STATE);
        Due.is("0 is of hour 2", x.restore(0), 1);
        Due.is("hour", x.count(3), 2);
        Due.is("dust", x.spot(0, 1), 2);
        x.hours(1);
        Due.is("one to undo", x.undo(), 0);
        Due.is("what is restored", x.count(3), 2);
        Due.is("no more", x.undo(), Due.STATE);
    }

    /** An IMAGE outlives what is done behind it, another LIBRARY too, and can be kept anew. */
    private static void restoredAgain() {
        DustReads x = Due.of("spot open 1 5 0;spot open 1 6 0;");
        x.image(0);
        for (int k = 0; k < 3; k++) {
            x.change(0, 1);
            x.take(0, 9);
            x.hours(2);
            x.dusts(3);
            Due.is("restore", x.restore(0), 1);
            Due.is("dust", x.spot(0, 1) * 10 + x.spot(1, 1), 56);
            Due.is("none moved", x.moved(), 0);
            Due.is("none out", x.count(5), 0);
            Due.is("hour", x.count(3), 0);
        }
        Due.read(x, "spot hearth 4 1 0;");
        x.image(0);
        Due.read(x, ONE.repeat(3));
        x.restore(0);
        Due.is("the latest kept", x.kind(0), 3);
        Due.is("its spots", x.count(1), 1);
    }

    /** HOUR 999 in an IMAGE; from there to hour 0 and back. */
    private static void keptInTheLastHour() {
        DustReads x = Due.of(SORTS + "reader 15 15;");
        x.image(0);
        Due.pass(x, 999);
        x.change(0, 1);
        x.take(3, 48);
        Due.is("kept", x.image(1), 1);
        for (int k = 0; k < 2; k++) {
            Due.is("hour 999", x.count(3), 999);
            Due.is("no hour more", x.hours(1), Due.FULL);
            Due.is("moved", x.moved(), 3);
            Due.is("out", x.spot(3, 4), 48);
            Due.is("its dust", x.spot(2, 1), 999 / 2 * 3 + 1);
            Due.is("he comes now", x.who(0, 0, 1), 1);
            for (int s = 0; s < 5; s++) {
                Due.is("draught of " + s, x.spot(s, 0), 5 - s);
            }
            Due.is("back to hour 0", x.restore(0), 1);
            Due.is("hour 0", x.count(3), 0);
            Due.is("an hour", x.hours(1), 1);
            Due.is("to hour 999", x.restore(1), 1);
        }
    }

    /** THE TRACE is empty ahead of an ASK (where that is refused it stays). */
    private static void traceIsEmptyAhead() {
        DustReads x = Due.of(SORTS);
        x.ask(1, 0);
        Due.is("six", x.trace(5), 20);
        Due.is("refused", x.ask(5, 0), Due.BAD);
        Due.is("refused", x.ask(0, 2), Due.BAD);
        Due.is("it stays", x.trace(0), 12);
        Due.is("to its end", x.trace(5), 20);
        x.ask(2, 0);
        Due.is("first", x.trace(0), 13);
        Due.is("last", x.trace(1), 10);
        Due.is("no more", x.trace(2), Due.NONE);
        Due.is("nor of the one before", x.trace(5), Due.NONE);
    }

    private static void traceHasAnEnd() {
        DustReads x = Due.of(SORTS);
        Due.is("none asked", x.trace(0), Due.NONE);
        x.ask(1, 0);
        int[] due = {12, 11, 10, 24, 21, 20};
        for (int i = -2; i < 20; i++) {
            Due.is("trace " + i, x.trace(i), i >= 0 && i < due.length ? due[i] : Due.NONE);
        }
        Due.is("far", x.trace(MOST), Due.NONE);
        Due.is("far below", x.trace(LEAST), Due.NONE);
        x.take(1, 1);
        x.hours(1);
        x.image(0);
        x.restore(0);
        Due.read(x, ONE);
        Due.is("others leave it", x.trace(5), 20);
    }

    private static void kindsThatItIsToo() {
        DustReads x = Due.of(SORTS);
        int[] kinds = {1, 2, 4, 5, 3};
        int[] sets = {0b000011, 0b000111, 0b010001, 0b110001, 0b001011};
        for (int s = 0; s < 5; s++) {
            Due.is("kind " + s, x.kind(s), kinds[s]);
            for (int kind = 0; kind < 6; kind++) {
                Due.is("as " + s + " " + kind, x.as(s, kind), (sets[s] >> kind & 1) == 1 ? s : Due.KIND);
            }
        }
    }

    // ---- counts

    private static void counts() {
        DustReads x = new DustReads();
        for (int row = 0; row < 8; row++) {
            Due.is("rows", x.count(0), row);
            x.row(row, 0, 0);
        }
        Due.is("spots", Due.read(x, ONE.repeat(7) + "reader 0 0;".repeat(4)), 7);
        Due.pass(x, 999);
        for (int s = 0; s < 7; s++) {
            Due.is("out", x.count(5), s);
            x.take(s, 48);
        }
        Due.feed(x, " ".repeat(400));
        int[] most = {8, 7, 4, 999, 24, 7, 400};
        for (int what = 0; what < 7; what++) {
            Due.is("count " + what, x.count(what), most[what]);
        }
        Due.is("count -1", x.count(-1), Due.BAD);
        Due.is("count 7", x.count(7), Due.BAD);
    }
}
