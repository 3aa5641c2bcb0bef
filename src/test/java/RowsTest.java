/** Promises 2 to 5, and 31 as far as ROWS go. */
final class RowsTest {
    private static final int MOST = Integer.MAX_VALUE, LEAST = Integer.MIN_VALUE;

    public static void main(String[] args) {
        rowIsLaid();
        rowIsRefused();
        setCutsToTheLane();
        whatIsCutIsKept();
        setIsRefused();
        copyCarries();
        copyIsRefused();
        dropLeavesNothing();
        statusTellsTheFinding();
        rowsStayApart();
        Due.end("RowsTest");
    }

    private static void rowIsLaid() {
        DustReads x = new DustReads();
        Due.is("row 0 items", x.row(0, 0, 0), 0);
        Due.is("row 40 items", x.row(7, 2, 40), 40);
        Due.is("two rows", x.count(0), 2);
        Due.is("set last", x.set(7, 39, 5), 5);
        Due.is("row again", x.row(7, 1, 40), 40);
        Due.is("still two rows", x.count(0), 2);
        x.row(6, 1, 1);
        x.set(6, 0, 9);
        Due.is("ITEMS are 0 anew", x.copy(7, 39, 6, 0, 1), 1);
        Due.read(x, "spot glass 1 0 0;");
        Due.is("0 came", x.learnt(6, 0, 1, 0), 1);
        x.row(7, 1, 2);
        Due.is("shorter now", x.set(7, 2, 1), Due.PLACE);
    }

    private static void rowIsRefused() {
        DustReads x = new DustReads();
        Due.is("row -1", x.row(-1, 0, 1), Due.BAD);
        Due.is("row 8", x.row(8, 0, 1), Due.BAD);
        Due.is("row least", x.row(LEAST, 0, 1), Due.BAD);
        Due.is("lane -1", x.row(0, -1, 1), Due.BAD);
        Due.is("lane 3", x.row(0, 3, 1), Due.BAD);
        Due.is("n 41", x.row(0, 0, 41), Due.BAD);
        Due.is("n most", x.row(0, 0, MOST), Due.BAD);
        Due.is("n -1", x.row(0, 0, -1), Due.SIZE);
        Due.is("n least", x.row(0, 0, LEAST), Due.SIZE);
        Due.is("BAD ahead of SIZE: row", x.row(8, 0, -1), Due.BAD);
        Due.is("BAD ahead of SIZE: lane", x.row(0, 3, -1), Due.BAD);
        Due.is("no row", x.count(0), 0);
        x.row(0, 1, 3);
        x.set(0, 1, 77);
        Due.is("SIZE over a row", x.row(0, 2, -1), Due.SIZE);
        Due.is("BAD over a row", x.row(0, 2, 41), Due.BAD);
        Due.is("it stays as it was", x.drop(0), 3);
    }

    private static void setCutsToTheLane() {
        DustReads x = new DustReads();
        x.row(0, 0, 1);
        x.row(1, 1, 1);
        x.row(2, 2, 1);
        int[][] cases = {
            {0, 0, 0, 0}, {127, 127, 127, 127}, {128, -128, 128, 128}, {255, -1, 255, 255},
            {256, 0, 256, 256}, {-1, -1, -1, -1}, {-129, 127, -129, -129}, {32767, -1, 32767, 32767},
            {32768, 0, -32768, 32768}, {65535, -1, -1, 65535}, {65536, 0, 0, 65536},
            {MOST, -1, -1, MOST}, {LEAST, 0, 0, LEAST}, {-1000011, 0xffffffb5, -16971, -1000011},
        };
        for (int[] c : cases) {
            Due.is("byte " + c[0], x.set(0, 0, c[0]), (byte) c[1]);
            Due.is("short " + c[0], x.set(1, 0, c[0]), (short) c[2]);
            Due.is("int " + c[0], x.set(2, 0, c[0]), c[3]);
        }
        Due.is("a value that looks like a finding", x.set(2, 0, -1000012), -1000012);
        Due.is("is none", x.status(), 0);
        Due.is("a value that looks like BAD", x.set(2, 0, Due.BAD), Due.BAD);
        Due.is("has status 0", x.status(), 0);
    }

    private static void setIsRefused() {
        DustReads x = new DustReads();
        Due.is("row -1", x.set(-1, 0, 0), Due.BAD);
        Due.is("row 8", x.set(8, 0, 0), Due.BAD);
        Due.is("missing", x.set(7, 0, 0), Due.NULL);
        Due.is("missing, no place either", x.set(7, -1, 0), Due.NULL);
        x.row(7, 0, 2);
        Due.is("place -1", x.set(7, -1, 0), Due.PLACE);
        Due.is("place 2", x.set(7, 2, 0), Due.PLACE);
        Due.is("place most", x.set(7, MOST, 0), Due.PLACE);
        Due.is("place least", x.set(7, LEAST, 0), Due.PLACE);
        Due.is("place 1", x.set(7, 1, 3), 3);
        x.row(7, 0, 0);
        Due.is("a row of none", x.set(7, 0, 0), Due.PLACE);
    }

    /** What a ROW holds is told by LEARNT alone: DUST behind an HOUR in an OPEN SPOT of so much DRAUGHT. */
    private static void holds(DustReads x, String what, int row, int... items) {
        for (int i = 0; i < items.length; i++) {
            Due.read(x, "spot open 1 " + (items[i] - 1) + " 0;");
            Due.is(what + ", item " + i, x.learnt(row, i, 1, 0), 1);
        }
    }

    /** Not only the answer is cut: the ITEM is, copied too. */
    private static void whatIsCutIsKept() {
        DustReads x = new DustReads();
        x.row(0, 0, 2);
        x.row(1, 1, 2);
        x.row(2, 2, 2);
        int[] values = {7 + 256, 7 + 65536, 7 - 256, 7 - 65536, 7 + (1 << 24), LEAST + 7};
        for (int v : values) {
            for (int row = 0; row < 3; row++) {
                x.set(row, 0, v);
                x.copy(row, 0, row, 1, 1);
            }
            holds(x, "byte of " + v, 0, 7, 7);
            if ((short) v == 7) {
                holds(x, "short of " + v, 1, 7, 7);
            } else {
                Due.is("short of " + v, x.learnt(1, 0, 1, 0), Due.NONE);
            }
            Due.is("int of " + v, x.learnt(2, 0, 1, 0), Due.NONE);
        }
    }

    private static void copyCarries() {
        DustReads x = new DustReads();
        Due.lay(x, 0, 1, 1, 2, 3, 4, 5);
        Due.lay(x, 1, 1, 11, 12, 13);
        Due.is("copy 2", x.copy(0, 1, 1, 1, 2), 2);
        holds(x, "copied", 1, 11, 2, 3);
        holds(x, "source", 0, 1, 2, 3, 4, 5);
        Due.is("copy up over itself", x.copy(0, 0, 0, 1, 4), 4);
        holds(x, "moved up", 0, 1, 1, 2, 3, 4);
        Due.is("copy down over itself", x.copy(0, 2, 0, 0, 3), 3);
        holds(x, "moved down", 0, 2, 3, 4, 3, 4);
        Due.is("copy all", x.copy(1, 0, 0, 0, 3), 3);
        holds(x, "all", 0, 11, 2, 3, 3, 4);
        Due.is("copy none", x.copy(0, 5, 1, 3, 0), 0);
        holds(x, "none", 1, 11, 2, 3);
    }

    private static void copyIsRefused() {
        DustReads x = new DustReads();
        Due.is("a -1", x.copy(-1, 0, 0, 0, 0), Due.BAD);
        Due.is("b 8", x.copy(0, 0, 8, 0, 0), Due.BAD);
        Due.is("a missing", x.copy(0, 0, 1, 0, 0), Due.NULL);
        x.row(0, 0, 4);
        Due.is("b missing", x.copy(0, 0, 1, 0, 0), Due.NULL);
        Due.is("a missing, b there", x.copy(1, 0, 0, 0, 0), Due.NULL);
        Due.is("missing ahead of place", x.copy(1, -1, 0, 0, 0), Due.NULL);
        x.row(1, 1, 4);
        Due.is("two lanes", x.copy(0, 0, 1, 0, 0), Due.STORE);
        Due.is("lanes ahead of place", x.copy(0, -1, 1, 0, -1), Due.STORE);
        x.row(2, 0, 3);
        Due.is("i -1", x.copy(0, -1, 2, 0, 1), Due.PLACE);
        Due.is("j -1", x.copy(0, 0, 2, -1, 1), Due.PLACE);
        Due.is("n -1", x.copy(0, 0, 2, 0, -1), Due.PLACE);
        Due.is("a's end", x.copy(0, 2, 2, 0, 3), Due.PLACE);
        Due.is("b's end", x.copy(0, 0, 2, 1, 3), Due.PLACE);
        Due.is("b's end, n 4", x.copy(0, 0, 2, 0, 4), Due.PLACE);
        Due.is("i beyond, none", x.copy(0, 5, 2, 0, 0), Due.PLACE);
        Due.is("j beyond, none", x.copy(0, 0, 2, 4, 0), Due.PLACE);
        Due.is("n most", x.copy(0, 1, 2, 1, MOST), Due.PLACE);
        Due.is("i most", x.copy(0, MOST, 2, 1, 1), Due.PLACE);
        Due.is("j most, n most", x.copy(0, 0, 2, MOST, MOST), Due.PLACE);
        Due.is("n least", x.copy(0, 0, 2, 0, LEAST), Due.PLACE);
        Due.is("to the ends", x.copy(0, 1, 2, 0, 3), 3);
    }

    private static void dropLeavesNothing() {
        DustReads x = new DustReads();
        Due.is("drop -1", x.drop(-1), Due.BAD);
        Due.is("drop 8", x.drop(8), Due.BAD);
        Due.is("drop missing", x.drop(3), Due.NULL);
        x.row(3, 0, 17);
        x.row(4, 0, 0);
        Due.is("drop", x.drop(3), 17);
        Due.is("one left", x.count(0), 1);
        Due.is("drop again", x.drop(3), Due.NULL);
        Due.is("missing to set", x.set(3, 0, 0), Due.NULL);
        Due.is("drop of none", x.drop(4), 0);
        Due.is("none left", x.count(0), 0);
    }

    private static void statusTellsTheFinding() {
        DustReads x = new DustReads();
        Due.is("at first", x.status(), 0);
        x.set(0, 0, 0);
        Due.is("NULL", x.status(), 1);
        x.set(8, 0, 0);
        x.row(0, 3, 0);
        x.copy(9, 0, 0, 0, 0);
        x.drop(-1);
        Due.is("BAD changes nothing", x.status(), 1);
        x.row(0, 0, 1);
        Due.is("row", x.status(), 0);
        x.set(0, 1, 0);
        Due.is("PLACE", x.status(), 2);
        x.set(0, 0, 0);
        Due.is("set", x.status(), 0);
        x.row(1, 1, -4);
        Due.is("SIZE", x.status(), 4);
        x.count(0);
        x.feed(0, 1);
        x.library();
        x.hours(1);
        Due.is("other calls change nothing", x.status(), 4);
        x.row(1, 1, 4);
        x.copy(0, 0, 1, 0, 1);
        Due.is("STORE", x.status(), 5);
        x.copy(0, 0, 0, 0, 1);
        Due.is("copy", x.status(), 0);
        x.copy(0, 0, 0, 0, 2);
        Due.is("copy PLACE", x.status(), 2);
        x.drop(1);
        Due.is("drop", x.status(), 0);
        x.drop(1);
        Due.is("drop NULL", x.status(), 1);
        x.copy(0, 0, 1, 0, 1);
        Due.is("copy NULL", x.status(), 1);
    }

    private static void rowsStayApart() {
        DustReads x = new DustReads();
        for (int row = 0; row < 8; row++) {
            Due.lay(x, row, 2, row * 10 + 1, row * 10 + 2);
        }
        Due.is("eight", x.count(0), 8);
        for (int row = 0; row < 8; row++) {
            holds(x, "row " + row, row, row * 10 + 1, row * 10 + 2);
        }
    }
}
