import java.util.ArrayList;
import java.util.List;
import java.util.TreeMap;
import java.util.regex.Matcher;
import java.util.regex.Pattern;

/** The document told a second time, as plainly as the Java library lets one, to hold DustReads against. */
final class Model {
    private static final int NONE = -1000000, BAD = -1000001, STATE = -1000002, FULL = -1000003;
    private static final int NULL = -1000011, PLACE = -1000012, KIND = -1000013, SIZE = -1000014, STORE = -1000015;
    private static final List<String> SORTS = List.of("", "open", "window", "hearth", "corner", "glass");
    /** The KIND that each KIND is, too; -1 behind SPOT. */
    private static final int[] WIDER = {-1, 0, 1, 1, 0, 4};

    private record Spot(String sort, int draught) {
    }

    private record Reader(int from, int to) {
    }

    private static final class Book {
        final int name;
        int dust;
        int faded;
        int out;

        Book(int name, int dust, int faded, int out) {
            this.name = name;
            this.dust = dust;
            this.faded = faded;
            this.out = out;
        }
    }

    private static final class World {
        final List<Spot> spots = new ArrayList<>();
        final List<Reader> readers = new ArrayList<>();
        final List<Book> books = new ArrayList<>();
        int hour;

        World twin() {
            World w = new World();
            w.spots.addAll(spots);
            w.readers.addAll(readers);
            for (Book b : books) {
                w.books.add(new Book(b.name, b.dust, b.faded, b.out));
            }
            w.hour = hour;
            return w;
        }

        int fall(int s, int t) {
            int draught = spots.get(s).draught;
            int day = t % 24;
            return switch (spots.get(s).sort) {
                case "corner" -> t % 2 == 1 ? draught - draught / 2 : draught / 2;
                case "glass" -> 0;
                case "hearth" -> day < 6 || day > 17 ? draught + draught : draught;
                default -> draught;
            };
        }

        int sun(int s, int t) {
            return spots.get(s).sort.equals("window") && t % 24 / 6 >= 1 && t % 24 / 6 <= 2 ? 1 : 0;
        }

        void pass() {
            for (int s = 0; s < books.size(); s++) {
                Book b = books.get(s);
                if (b.out > 0) {
                    b.out--;
                } else {
                    b.dust = Math.min(9999, b.dust + fall(s, hour));
                    b.faded = Math.min(9999, b.faded + sun(s, hour));
                }
            }
            hour++;
        }

        World after(int n) {
            World w = twin();
            for (int k = 0; k < n; k++) {
                w.pass();
            }
            return w;
        }
    }

    private static final class Row {
        int lane;
        int[] items;
    }

    private World world;
    private final List<World> acts = new ArrayList<>();
    private final World[] images = new World[2];
    private final Row[] rows = new Row[8];
    private final StringBuilder tape = new StringBuilder();
    private int fault;
    private int status;
    private final List<Integer> trace = new ArrayList<>();

    // ---- rows

    private int found(int finding) {
        status = -1000010 - finding;
        return finding;
    }

    private int well(int answer) {
        status = 0;
        return answer;
    }

    private static boolean among(int i, int most) {
        return i >= 0 && i <= most;
    }

    int row(int row, int lane, int n) {
        if (!among(row, 7) || !among(lane, 2) || n > 40) {
            return BAD;
        }
        if (n < 0) {
            return found(SIZE);
        }
        rows[row] = new Row();
        rows[row].lane = lane;
        rows[row].items = new int[n];
        return well(n);
    }

    int set(int row, int i, int v) {
        if (!among(row, 7)) {
            return BAD;
        }
        if (rows[row] == null) {
            return found(NULL);
        }
        if (!among(i, rows[row].items.length - 1)) {
            return found(PLACE);
        }
        int shift = new int[] {24, 16, 0}[rows[row].lane];
        rows[row].items[i] = v << shift >> shift;
        return well(rows[row].items[i]);
    }

    int copy(int a, int i, int b, int j, int n) {
        if (!among(a, 7) || !among(b, 7)) {
            return BAD;
        }
        if (rows[a] == null || rows[b] == null) {
            return found(NULL);
        }
        if (rows[a].lane != rows[b].lane) {
            return found(STORE);
        }
        long endOfA = (long) i + n;
        long endOfB = (long) j + n;
        if (i < 0 || j < 0 || n < 0 || endOfA > rows[a].items.length || endOfB > rows[b].items.length) {
            return found(PLACE);
        }
        int[] ahead = rows[a].items.clone();
        for (int k = 0; k < n; k++) {
            rows[b].items[j + k] = ahead[i + k];
        }
        return well(n);
    }

    int drop(int row) {
        if (!among(row, 7)) {
            return BAD;
        }
        if (rows[row] == null) {
            return found(NULL);
        }
        int n = rows[row].items.length;
        rows[row] = null;
        return well(n);
    }

    // ---- libraries, hours

    int feed(long w, int n) {
        if (n < 1 || n > 8) {
            return BAD;
        }
        if (tape.length() + n > 400) {
            return FULL;
        }
        String bytes = "";
        for (int k = 0; k < n; k++) {
            bytes = (char) (w & 255) + bytes;
            w >>= 8;
        }
        tape.append(bytes);
        return tape.length();
    }

    private record Token(String text, int place) {
        boolean isNumber() {
            return text.matches("[0-9]{1,3}");
        }
    }

    private static final class Fault extends Exception {
        private static final long serialVersionUID = 1;
        final int number;
        final int place;

        Fault(int number, int place) {
            this.number = number;
            this.place = place;
        }
    }

    private List<Token> tokens;
    private int next;

    private Token want(String pattern) throws Fault {
        Token t = tokens.get(next);
        if (!t.text.matches(pattern)) {
            throw new Fault(1, t.place);
        }
        next++;
        return t;
    }

    private int number(int low, int high) throws Fault {
        Token t = want("[0-9]{1,3}");
        int v = Integer.parseInt(t.text);
        if (v < low || v > high) {
            throw new Fault(2, t.place);
        }
        return v;
    }

    private World parse(String text) throws Fault {
        tokens = new ArrayList<>();
        next = 0;
        Matcher m = Pattern.compile("[a-z]+|[0-9]+|[^ \n]", Pattern.DOTALL).matcher(text);
        while (m.find()) {
            tokens.add(new Token(m.group(), m.start()));
        }
        tokens.add(new Token("", text.length()));
        World w = new World();
        do {
            Token word = want("spot");
            if (w.spots.size() == 7) {
                throw new Fault(3, word.place);
            }
            String sort = want("open|window|corner|glass|hearth").text;
            w.spots.add(new Spot(sort, number(1, 5)));
            w.books.add(new Book(w.books.size(), number(0, 99), number(0, 99), 0));
            want(";");
        } while (tokens.get(next).text.equals("spot"));
        while (!tokens.get(next).text.isEmpty()) {
            Token word = want("reader");
            if (w.readers.size() == 4) {
                throw new Fault(3, word.place);
            }
            int from = number(0, 23);
            w.readers.add(new Reader(from, number(from, 23)));
            want(";");
        }
        return w;
    }

    int library() {
        String text = tape.toString();
        tape.setLength(0);
        try {
            world = parse(text);
            acts.clear();
            return world.spots.size();
        } catch (Fault f) {
            fault = f.number;
            return -1000100 - f.place;
        }
    }

    int fault() {
        return fault;
    }

    private void act() {
        acts.add(world.twin());
        if (acts.size() > 24) {
            acts.remove(0);
        }
    }

    private boolean no(int spot) {
        return world == null || spot < 0 || spot >= world.spots.size();
    }

    private boolean noSet(int set) {
        return set < 0 || set >= 1 << world.spots.size();
    }

    int hours(int n) {
        if (world == null) {
            return STATE;
        }
        if (n < 1 || n > 24) {
            return BAD;
        }
        if (world.hour + n > 999) {
            return FULL;
        }
        for (int k = 0; k < n; k++) {
            act();
            world.pass();
        }
        return world.hour;
    }

    int take(int spot, int n) {
        if (no(spot) || n < 1 || n > 48) {
            return BAD;
        }
        Book b = world.books.get(spot);
        if (b.out > 0) {
            return STATE;
        }
        act();
        int had = b.dust;
        b.dust = 0;
        b.out = n;
        return had;
    }

    int change(int a, int b) {
        if (no(a) || no(b) || a == b) {
            return BAD;
        }
        if (world.books.get(a).out + world.books.get(b).out > 0) {
            return STATE;
        }
        act();
        world.books.set(a, world.books.set(b, world.books.get(a)));
        world.books.get(a).dust = 0;
        world.books.get(b).dust = 0;
        return world.books.get(a).name;
    }

    int dusts(int set) {
        if (world == null) {
            return STATE;
        }
        if (noSet(set)) {
            return BAD;
        }
        act();
        int sum = 0;
        for (int s = 0; s < world.books.size(); s++) {
            if ((set & 1 << s) != 0) {
                sum += world.books.get(s).dust;
                world.books.get(s).dust = 0;
            }
        }
        return sum;
    }

    int undo() {
        if (acts.isEmpty()) {
            return STATE;
        }
        world = acts.remove(acts.size() - 1);
        return acts.size();
    }

    int spot(int spot, int what) {
        if (no(spot) || !among(what, 4)) {
            return BAD;
        }
        Book b = world.books.get(spot);
        return new int[] {world.spots.get(spot).draught, b.dust, b.name, b.faded, b.out}[what];
    }

    int fall(int spot, int t, int what) {
        if (no(spot) || !among(t, 999) || !among(what, 1)) {
            return BAD;
        }
        return what == 0 ? world.fall(spot, t) : world.sun(spot, t);
    }

    // ---- foretold

    int ahead(int spot, int n, int what) {
        if (no(spot) || !among(n, 99) || !among(what, 1)) {
            return BAD;
        }
        Book b = world.after(n).books.get(spot);
        return what == 0 ? b.dust : b.faded;
    }

    private List<Integer> touches(int spot, int dust) {
        List<Integer> hours = new ArrayList<>();
        for (int h = 0; h <= world.hour; h++) {
            int sum = 0;
            for (int t = h; t < world.hour; t++) {
                sum += world.fall(spot, t);
            }
            if (sum == dust) {
                hours.add(h);
            }
        }
        return hours;
    }

    int when(int spot, int dust, int what) {
        if (no(spot) || !among(dust, 9999) || !among(what, 1)) {
            return BAD;
        }
        List<Integer> hours = touches(spot, dust);
        return hours.isEmpty() ? NONE : hours.get(what == 0 ? 0 : hours.size() - 1);
    }

    int who(int spot, int dust, int what) {
        if (no(spot) || !among(dust, 9999) || !among(what, 1)) {
            return BAD;
        }
        List<Integer> hours = touches(spot, dust);
        if (hours.isEmpty()) {
            return NONE;
        }
        int set = 0;
        for (int r = 0; r < world.readers.size(); r++) {
            Reader reader = world.readers.get(r);
            long comes = hours.stream().filter(h -> h % 24 >= reader.from && h % 24 <= reader.to).count();
            if (what == 0 ? comes > 0 : comes == hours.size()) {
                set += 1 << r;
            }
        }
        return set;
    }

    int oneHand(int set) {
        if (world == null) {
            return STATE;
        }
        if (noSet(set)) {
            return BAD;
        }
        int hands = (1 << world.readers.size()) - 1;
        for (int s = 0; s < world.books.size(); s++) {
            if ((set & 1 << s) != 0) {
                hands &= Math.max(0, who(s, world.books.get(s).dust, 0));
            }
        }
        return hands;
    }

    int moved() {
        if (world == null) {
            return STATE;
        }
        int set = 0;
        for (int s = 0; s < world.books.size(); s++) {
            set += world.books.get(s).name == s ? 0 : 1 << s;
        }
        return set;
    }

    int like(int a, int b) {
        if (no(a) || no(b) || a == b) {
            return BAD;
        }
        World w = world.twin();
        for (int n = 0; n <= 99; n++) {
            if (w.books.get(a).dust == w.books.get(b).dust) {
                return n;
            }
            w.pass();
        }
        return NONE;
    }

    private boolean hides(int set, int d) {
        for (int a = 0; a < world.books.size(); a++) {
            for (int b = 0; b < world.books.size(); b++) {
                Book x = world.books.get(a);
                Book y = world.books.get(b);
                int onX = (set & 1 << a) != 0 ? 0 : x.dust;
                int onY = (set & 1 << b) != 0 ? 0 : y.dust;
                if (x.out == 0 && y.out == 0 && onX - onY > d) {
                    return false;
                }
            }
        }
        return true;
    }

    int hide(int d) {
        if (world == null) {
            return STATE;
        }
        if (!among(d, 9999)) {
            return BAD;
        }
        TreeMap<Integer, Integer> best = new TreeMap<>();
        for (int set = 0; set < 1 << world.books.size(); set++) {
            if (hides(set, d)) {
                best.putIfAbsent(Integer.bitCount(set), set);
            }
        }
        return best.firstEntry().getValue();
    }

    int learnt(int row, int i, int n, int spot) {
        if (!among(row, 7) || n < 1 || n > 20 || no(spot)) {
            return BAD;
        }
        if (world.books.get(spot).out > 0) {
            return STATE;
        }
        if (rows[row] == null) {
            return found(NULL);
        }
        if (i < 0 || (long) i + n > rows[row].items.length) {
            return found(PLACE);
        }
        for (int draught = 1; draught <= 5; draught++) {
            World w = world.twin();
            w.spots.set(spot, new Spot(w.spots.get(spot).sort, draught));
            boolean so = true;
            for (int k = 0; k < n; k++) {
                w.pass();
                so &= w.books.get(spot).dust == rows[row].items[i + k];
            }
            if (so) {
                return well(draught);
            }
        }
        return well(NONE);
    }

    int image(int k) {
        if (!among(k, 1)) {
            return BAD;
        }
        if (world == null) {
            return STATE;
        }
        images[k] = world.twin();
        return 1;
    }

    int restore(int k) {
        if (!among(k, 1)) {
            return BAD;
        }
        if (images[k] == null) {
            return STATE;
        }
        world = images[k].twin();
        acts.clear();
        return 1;
    }

    // ---- asked

    int kind(int spot) {
        return no(spot) ? BAD : SORTS.indexOf(world.spots.get(spot).sort);
    }

    int as(int spot, int kind) {
        if (no(spot) || !among(kind, 5)) {
            return BAD;
        }
        for (int k = kind(spot); k >= 0; k = WIDER[k]) {
            if (k == kind) {
                return well(spot);
            }
        }
        return found(KIND);
    }

    /** The BODIES of an ASK by KINDS, 0 where there is none. */
    private static final int[][] BODIES = {{10, 11, 12, 0, 13, 14}, {20, 21, 24, 22, 23, 0}};

    private int begin(int spot, int what) {
        int k = kind(spot);
        while (BODIES[what][k] == 0) {
            k = WIDER[k];
        }
        return body(spot, BODIES[what][k]);
    }

    private int body(int spot, int number) {
        if (trace.size() < 16) {
            trace.add(number);
        }
        switch (number) {
            case 10: return world.spots.get(spot).draught;
            case 11: return body(spot, 10) + begin(spot, 1);
            case 12: return 0 - body(spot, 11);
            case 13: return body(spot, 10) - 100;
            case 14: return 2 * body(spot, 13);
            case 20: return spot;
            case 21: return body(spot, 20) + world.books.get(spot).dust;
            case 22: return body(spot, 21) - 1000;
            case 23: return body(spot, 20) - begin(spot, 0);
            default: return 2 * body(spot, 21);
        }
    }

    int ask(int spot, int what) {
        if (no(spot) || !among(what, 1)) {
            return BAD;
        }
        trace.clear();
        return begin(spot, what);
    }

    int trace(int i) {
        return i >= 0 && i < trace.size() ? trace.get(i) : NONE;
    }

    int count(int what) {
        int there = 0;
        for (Row r : rows) {
            there += r == null ? 0 : 1;
        }
        long out = world == null ? 0 : world.books.stream().filter(b -> b.out > 0).count();
        int[] all = {there, world == null ? 0 : world.spots.size(), world == null ? 0 : world.readers.size(),
            world == null ? 0 : world.hour, acts.size(), (int) out, tape.length()};
        return among(what, 6) ? all[what] : BAD;
    }

    int status() {
        return status;
    }
}
