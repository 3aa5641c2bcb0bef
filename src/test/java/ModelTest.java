import java.util.Random;

/** Long runs of calls, right ones and wrong ones, on DustReads and on the Model: each answer must be alike. */
final class ModelTest {
    private static final int RUNS = 400, CALLS = 512;
    private static final String[] SORTS = {"open", "window", "corner", "glass", "hearth"};
    private static final String[] PIECES = {"spot", "reader", "open", "glass", ";", "0", "1", "5", "24", "99", "100",
        "1000", "x", "-", "\n", " ", "spo", "readers", "007", "\u00e9", "\t"};

    private final Random random;
    private final DustReads x = new DustReads();
    private final Model y = new Model();
    private final String name;
    private int made;

    private ModelTest(int seed) {
        random = new Random(seed);
        name = "run " + seed;
    }

    public static void main(String[] args) {
        for (int seed = 1; seed <= RUNS; seed++) {
            new ModelTest(seed).run(seed % 10 == 0);
        }
        Due.end("ModelTest");
    }

    private void alike(String call, int got, int want) {
        made++;
        Due.is(name + ", call " + made + ", " + call, got, want);
    }

    /** Mostly a number from low to high, now and then one beyond, or far beyond. */
    private int near(int low, int high) {
        int chance = random.nextInt(60);
        if (chance == 0) {
            return low - 1;
        }
        if (chance == 1) {
            return high + 1;
        }
        if (chance == 2) {
            return random.nextInt();
        }
        if (chance == 3) {
            return random.nextBoolean() ? Integer.MAX_VALUE : Integer.MIN_VALUE;
        }
        return low + random.nextInt(high - low + 1);
    }

    private int spotNumber() {
        return near(0, Math.max(0, y.count(1) - 1));
    }

    private int anyDust(int spot) {
        int chance = random.nextInt(4);
        if (chance == 0) {
            return near(0, 9999);
        }
        if (chance == 1) {
            return near(0, 12);
        }
        int there = y.spot(spot, 1);
        return chance == 2 && there >= 0 ? there : near(0, 300);
    }

    private String gap() {
        String[] gaps = {" ", " ", "\n", "  ", " \n"};
        return gaps[random.nextInt(gaps.length)];
    }

    private String text() {
        StringBuilder text = new StringBuilder();
        int spots = 1 + random.nextInt(random.nextInt(12) == 0 ? 8 : 7);
        int most = random.nextBoolean() ? 8 : 99;
        for (int s = 0; s < spots; s++) {
            text.append("spot").append(gap()).append(SORTS[random.nextInt(5)]).append(gap());
            text.append(near(1, 5)).append(gap()).append(near(0, most)).append(gap()).append(near(0, most)).append(';');
        }
        int readers = random.nextInt(random.nextInt(12) == 0 ? 6 : 5);
        for (int r = 0; r < readers; r++) {
            int from = random.nextInt(24);
            text.append("reader").append(gap()).append(from).append(gap()).append(near(from, 23)).append(';');
        }
        return text.toString();
    }

    private String brokenText() {
        String text = text();
        int at = random.nextInt(text.length());
        String piece = PIECES[random.nextInt(PIECES.length)];
        switch (random.nextInt(4)) {
            case 0: return text.substring(0, at);
            case 1: return text.substring(0, at) + piece + text.substring(at);
            case 2: return text.substring(0, at) + text.substring(Math.min(text.length(), at + 1 + random.nextInt(5)));
            default: return text + piece;
        }
    }

    private void read(String text) {
        for (int at = 0; at < text.length(); at += 8) {
            int n = Math.min(8, text.length() - at);
            long w = at == 0 ? random.nextLong() : 0;
            for (int k = 0; k < n; k++) {
                w = w << 8 | text.charAt(at + k) & 0xff;
            }
            alike("feed", x.feed(w, n), y.feed(w, n));
        }
        alike("library of '" + text + "'", x.library(), y.library());
        alike("fault", x.fault(), y.fault());
    }

    private void run(boolean late) {
        if (random.nextInt(8) > 0) {
            read(text());
        }
        for (int k = 0; late && k < 41; k++) {
            alike("hours 24", x.hours(24), y.hours(24));
        }
        while (made < CALLS - 90) {
            switch (random.nextInt(12)) {
                case 0: callRows(); break;
                case 1: case 2: callTape(); break;
                case 3: case 4: callHours(late); break;
                case 5: case 6: callActs(); break;
                case 7: case 8: callForetold(); break;
                case 9: callWhen(); break;
                case 10: callLearnt(); break;
                default: callAsked();
            }
        }
        lookAtAll();
    }

    private void callRows() {
        int row = near(0, 7);
        int other = random.nextInt(3) == 0 ? row : near(0, 3);
        int i = near(0, 6);
        int n = near(0, 8);
        int lane = near(0, 2);
        int v = random.nextBoolean() ? random.nextInt() : near(-1, 300);
        switch (random.nextInt(6)) {
            case 0: alike("row " + row + " " + lane + " " + n, x.row(row, lane, n), y.row(row, lane, n)); break;
            case 1: alike("row " + row + " " + lane, x.row(row, lane, 40), y.row(row, lane, 40)); break;
            case 2: alike("drop " + row, x.drop(row), y.drop(row)); break;
            case 3: alike("set", x.set(row, i, v), y.set(row, i, v)); break;
            default: alike("copy", x.copy(row, i, other, n % 5, n), y.copy(row, i, other, n % 5, n));
        }
        alike("status", x.status(), y.status());
    }

    private void callTape() {
        int chance = random.nextInt(12);
        int n = near(1, 8);
        if (chance == 0) {
            read(text());
        } else if (chance == 1) {
            read(brokenText());
        } else if (chance == 2) {
            long w = random.nextLong();
            alike("feed", x.feed(w, n), y.feed(w, n));
        }
    }

    private void callHours(boolean late) {
        int n = late ? near(1, 24) : near(1, 1 + random.nextInt(12));
        alike("hours " + n, x.hours(n), y.hours(n));
        int spot = spotNumber();
        alike("dust in " + spot, x.spot(spot, 1), y.spot(spot, 1));
    }

    private void callActs() {
        int a = spotNumber();
        int b = spotNumber();
        int n = near(1, random.nextBoolean() ? 48 : 5);
        int set = near(0, (1 << y.count(1)) - 1);
        switch (random.nextInt(8)) {
            case 0: case 1: alike("take " + a + " " + n, x.take(a, n), y.take(a, n)); break;
            case 2: case 3: alike("change " + a + " " + b, x.change(a, b), y.change(a, b)); break;
            case 4: alike("dusts " + set, x.dusts(set), y.dusts(set)); break;
            case 5: alike("undo", x.undo(), y.undo()); break;
            case 6: alike("image " + n % 2, x.image(n % 2), y.image(n % 2)); break;
            default: alike("restore " + n % 3, x.restore(n % 3), y.restore(n % 3));
        }
        alike("moved", x.moved(), y.moved());
    }

    private void callForetold() {
        int a = spotNumber();
        int b = spotNumber();
        int n = near(0, 99);
        int what = near(0, 1);
        int d = anyDust(a);
        int t = near(0, 999);
        alike("ahead " + a + " " + n + " " + what, x.ahead(a, n, what), y.ahead(a, n, what));
        alike("like " + a + " " + b, x.like(a, b), y.like(a, b));
        alike("hide " + d, x.hide(d), y.hide(d));
        alike("fall " + a + " " + t + " " + what, x.fall(a, t, what), y.fall(a, t, what));
    }

    private void callWhen() {
        int a = spotNumber();
        int d = anyDust(a);
        int what = near(0, 1);
        int set = near(0, (1 << y.count(1)) - 1);
        alike("when " + a + " " + d + " " + what, x.when(a, d, what), y.when(a, d, what));
        alike("who " + a + " " + d + " " + what, x.who(a, d, what), y.who(a, d, what));
        alike("oneHand " + set, x.oneHand(set), y.oneHand(set));
    }

    /** A row as it would be learnt in a SPOT, from the model's own AHEAD; now and then a wrong one. */
    private void callLearnt() {
        int spot = spotNumber();
        int n = near(1, 5);
        int row = near(0, 7);
        alike("row", x.row(row, 1, 6), y.row(row, 1, 6));
        for (int i = 0; i < 6; i++) {
            int v = y.ahead(spot, i, 0) + (random.nextInt(30) == 0 ? 1 : 0);
            alike("set", x.set(row, i, v), y.set(row, i, v));
        }
        int from = random.nextInt(8) == 0 ? near(0, 6) : 1;
        alike("learnt " + from + " " + n + " " + spot, x.learnt(row, from, n, spot), y.learnt(row, from, n, spot));
        alike("status", x.status(), y.status());
    }

    private void callAsked() {
        int spot = spotNumber();
        int what = near(0, 1);
        int kind = near(0, 5);
        int i = near(0, 6);
        alike("kind " + spot, x.kind(spot), y.kind(spot));
        alike("as " + spot + " " + kind, x.as(spot, kind), y.as(spot, kind));
        alike("status", x.status(), y.status());
        alike("ask " + spot + " " + what, x.ask(spot, what), y.ask(spot, what));
        alike("trace " + i, x.trace(i), y.trace(i));
    }

    private void lookAtAll() {
        for (int s = 0; s < 7; s++) {
            for (int what = 1; what < 5; what++) {
                alike("spot " + s + " " + what, x.spot(s, what), y.spot(s, what));
            }
        }
        for (int what = 0; what < 7; what++) {
            alike("count " + what, x.count(what), y.count(what));
        }
        alike("fault", x.fault(), y.fault());
        alike("status", x.status(), y.status());
    }
}
