/** Promises 24 to 29, and 31 as far as as() goes. */
final class AsksTest {
    private static final int MOST = Integer.MAX_VALUE, LEAST = Integer.MIN_VALUE;
    private static final String ALL =
        "spot glass 1 0 0;spot open 2 10 1;spot window 3 20 2;spot hearth 4 30 3;spot corner 5 40 4;spot glass 5 50 5;";

    public static void main(String[] args) {
        imageKeepsAll();
        imagesAreTwo();
        imageIsRefused();
        restoreForgetsActs();
        kinds();
        takenAsAKind();
        asIsRefused();
        sizes();
        marks();
        askOfWhatIsThereNow();
        askIsRefused();
        Due.end("AsksTest");
    }

    private static void imageKeepsAll() {
        DustReads x = Due.of("spot open 2 0 3;spot window 1 0 0;reader 5 6;");
        x.hours(8);
        x.change(0, 1);
        x.take(1, 5);
        Due.is("image", x.image(0), 1);
        Due.is("acts stay", x.count(4), 10);
        Due.pass(x, 6);
        x.take(0, 2);
        Due.read(x, "spot glass 1 1 1;spot glass 1 1 1;spot glass 1 1 1;reader 0 0;reader 1 1;");
        Due.pass(x, 30);
        Due.is("restore", x.restore(0), 1);
        int[] counts = {0, 2, 1, 8, 0, 1, 0};
        for (int what = 0; what < counts.length; what++) {
            Due.is("count " + what, x.count(what), counts[what]);
        }
        int[][] spots = {{2, 0, 1, 2, 0}, {1, 0, 0, 3, 5}};
        for (int s = 0; s < 2; s++) {
            for (int what = 0; what < 5; what++) {
                Due.is("spot " + s + " " + what, x.spot(s, what), spots[s][what]);
            }
        }
        Due.is("no third spot", x.spot(2, 0), Due.BAD);
        Due.is("its sorts", x.kind(1), 2);
        x.hours(1);
        Due.is("its reader", x.who(0, 2 * 3, 0), 1);
        Due.is("out less", x.spot(1, 4), 4);
        Due.is("again", x.restore(0), 1);
        Due.is("the image is as it was", x.spot(1, 4), 5);
        Due.is("hour", x.count(3), 8);
    }

    private static void imagesAreTwo() {
        DustReads x = Due.of(ALL);
        Due.is("image 1", x.image(1), 1);
        Due.is("none in 0", x.restore(0), Due.STATE);
        x.hours(3);
        Due.is("image 0", x.image(0), 1);
        x.hours(3);
        Due.is("restore 1", x.restore(1), 1);
        Due.is("hour 0", x.count(3), 0);
        Due.is("restore 0", x.restore(0), 1);
        Due.is("hour 3", x.count(3), 3);
        x.hours(1);
        Due.is("image 1 in place", x.image(1), 1);
        x.restore(0);
        x.restore(1);
        Due.is("hour 4", x.count(3), 4);
    }

    private static void imageIsRefused() {
        DustReads x = new DustReads();
        Due.is("BAD ahead of STATE", x.image(2), Due.BAD);
        Due.is("STATE", x.image(1), Due.STATE);
        Due.is("restore: BAD ahead of STATE", x.restore(-1), Due.BAD);
        Due.is("restore: STATE", x.restore(1), Due.STATE);
        Due.read(x, ALL);
        for (int k : new int[] {-1, 2, MOST, LEAST}) {
            Due.is("image " + k, x.image(k), Due.BAD);
            Due.is("restore " + k, x.restore(k), Due.BAD);
        }
    }

    private static void restoreForgetsActs() {
        DustReads x = Due.of(ALL);
        x.hours(5);
        x.image(0);
        Due.is("undo", x.undo(), 4);
        x.restore(0);
        Due.is("hour", x.count(3), 5);
        Due.is("no act", x.count(4), 0);
        Due.is("undo", x.undo(), Due.STATE);
        x.hours(1);
        Due.is("undo of it", x.undo(), 0);
        Due.is("hour", x.count(3), 5);
        Due.is("a refused one", x.restore(1), Due.STATE);
        x.hours(2);
        x.restore(1);
        x.restore(2);
        Due.is("leaves acts", x.count(4), 2);
    }

    private static void kinds() {
        DustReads x = Due.of(ALL);
        int[] due = {5, 1, 2, 3, 4, 5};
        for (int s = 0; s < 6; s++) {
            Due.is("kind " + s, x.kind(s), due[s]);
        }
        for (int s : new int[] {-1, 6, 7, MOST, LEAST}) {
            Due.is("kind " + s, x.kind(s), Due.BAD);
        }
        x.change(1, 2);
        Due.is("SPOTS have them, not BOOKS", x.kind(1), 1);
    }

    private static void takenAsAKind() {
        DustReads x = Due.of(ALL);
        String[] due = {"100011", "110000", "111000", "110100", "100010", "100011"};
        for (int s = 0; s < 6; s++) {
            for (int kind = 0; kind < 6; kind++) {
                boolean is = due[s].charAt(kind) == '1';
                Due.is("as " + s + " " + kind, x.as(s, kind), is ? s : Due.KIND);
                Due.is("status of it", x.status(), is ? 0 : 3);
            }
        }
    }

    private static void asIsRefused() {
        DustReads x = Due.of(ALL);
        x.as(1, 2);
        int[][] wrong = {{-1, 0}, {6, 0}, {MOST, 0}, {0, -1}, {0, 6}, {0, MOST}, {LEAST, LEAST}};
        for (int[] w : wrong) {
            Due.is("as " + w[0] + " " + w[1], x.as(w[0], w[1]), Due.BAD);
            Due.is("status stays", x.status(), 3);
        }
        x.kind(9);
        x.ask(0, 9);
        Due.is("others leave it", x.status(), 3);
        x.row(0, 0, 0);
        Due.is("a row does not", x.status(), 0);
    }

    private static void asked(DustReads x, int spot, int what, int due, int... trace) {
        Due.is("ask " + spot + " " + what, x.ask(spot, what), due);
        for (int i = 0; i < 16; i++) {
            Due.is("trace " + i + " of ask " + spot + " " + what, x.trace(i), i < trace.length ? trace[i] : Due.NONE);
        }
    }

    private static void sizes() {
        DustReads x = Due.of(ALL);
        asked(x, 0, 0, 2 * (1 - 100), 14, 13, 10);
        asked(x, 1, 0, 2 + 11, 11, 10, 21, 20);
        asked(x, 2, 0, -(3 + 44), 12, 11, 10, 24, 21, 20);
        asked(x, 3, 0, 4 + 33 - 1000, 11, 10, 22, 21, 20);
        asked(x, 4, 0, 5 - 100, 13, 10);
        asked(x, 5, 0, 2 * (5 - 100), 14, 13, 10);
    }

    private static void marks() {
        DustReads x = Due.of(ALL);
        asked(x, 0, 1, 198, 23, 20, 14, 13, 10);
        asked(x, 1, 1, 11, 21, 20);
        asked(x, 2, 1, 44, 24, 21, 20);
        asked(x, 3, 1, 33 - 1000, 22, 21, 20);
        asked(x, 4, 1, 4 + 95, 23, 20, 13, 10);
        asked(x, 5, 1, 5 + 190, 23, 20, 14, 13, 10);
    }

    private static void askOfWhatIsThereNow() {
        DustReads x = Due.of(ALL);
        x.hours(2);
        asked(x, 1, 1, 1 + 14, 21, 20);
        x.take(1, 2);
        asked(x, 1, 0, 2 + 1, 11, 10, 21, 20);
        x.change(2, 4);
        asked(x, 4, 1, 4 + 95, 23, 20, 13, 10);
    }

    private static void askIsRefused() {
        DustReads x = Due.of(ALL);
        x.ask(4, 0);
        int[][] wrong = {{-1, 0}, {6, 0}, {0, -1}, {0, 2}, {MOST, LEAST}};
        for (int[] w : wrong) {
            Due.is("ask " + w[0] + " " + w[1], x.ask(w[0], w[1]), Due.BAD);
            Due.is("the trace stays", x.trace(0), 13);
            Due.is("the trace stays", x.trace(1), 10);
        }
        for (int i : new int[] {-1, 2, 15, 16, MOST, LEAST}) {
            Due.is("trace " + i, x.trace(i), Due.NONE);
        }
    }
}
