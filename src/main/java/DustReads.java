import java.util.Arrays;

/** A library in which nobody signs for anything: its dust tells who can have read what, and when. */
public final class DustReads {
    public static final int NONE = -1000000, BAD = -1000001, STATE = -1000002, FULL = -1000003;

    private static final int FINDING = -1000010;
    private static final int NULL = 1, PLACE = 2, KIND = 3, SIZE = 4, STORE = 5;
    private static final int FAULT = -1000100;
    private static final int ROWS = 8, LANES = 3, ITEMS = 40;
    private static final int TAPE = 400;
    private static final int SPOTS = 7, READERS = 4;
    private static final int DAY = 24, LAST_HOUR = 999, MOST_DUST = 9999;
    private static final int LONGEST_TAKE = 48, FARTHEST = 99;
    private static final int MOST_DRAUGHT = 5, MOST_TOLD = 99, LONGEST_LESSON = 20;
    private static final int ACTS = 24, IMAGES = 2, KINDS = 6, TRACED = 16;

    private final Rows rows;
    /** The number of the FINDING that status() tells. */
    private int finding;
    private final byte[] tape;
    private int taped;
    private int latestFault;
    private Library library;
    /** A ring: the LIBRARY ahead of each ACT that can be undone, from the oldest on. */
    private final Library[] past;
    private int oldest;
    private int undoable;
    private final Library[] images;
    private final Trace trace;

    public DustReads() {
        rows = new Rows();
        tape = new byte[TAPE];
        library = new Library(null);
        past = new Library[ACTS];
        for (int k = 0; k < past.length; k++) {
            past[k] = new Library(null);
        }
        images = new Library[IMAGES];
        for (int k = 0; k < images.length; k++) {
            images[k] = new Library(null);
        }
        trace = new Trace();
    }

    // ---- rows

    public int row(int row, int lane, int n) {
        if (!rows.isRow(row) || lane < 0 || lane >= LANES || n > ITEMS) {
            return BAD;
        }
        finding = n < 0 ? SIZE : 0;
        if (finding != 0) {
            return FINDING - finding;
        }
        rows.lay(row, lane, n);
        return n;
    }

    public int set(int row, int i, int v) {
        if (!rows.isRow(row)) {
            return BAD;
        }
        finding = rows.findingAt(row, i, 1);
        return finding != 0 ? FINDING - finding : rows.put(row, i, v);
    }

    public int copy(int a, int i, int b, int j, int n) {
        if (!rows.isRow(a) || !rows.isRow(b)) {
            return BAD;
        }
        finding = rows.findingBetween(a, i, b, j, n);
        if (finding != 0) {
            return FINDING - finding;
        }
        rows.carry(a, i, b, j, n);
        return n;
    }

    public int drop(int row) {
        if (!rows.isRow(row)) {
            return BAD;
        }
        finding = rows.isMissing(row) ? NULL : 0;
        return finding != 0 ? FINDING - finding : rows.remove(row);
    }

    // ---- libraries, hours

    public int feed(long w, int n) {
        if (n < 1 || n > 8) {
            return BAD;
        }
        if (taped + n > tape.length) {
            return FULL;
        }
        for (int k = n - 1; k >= 0; k--) {
            tape[taped] = (byte) (w >>> (8 * k));
            taped++;
        }
        return taped;
    }

    public int library() {
        Reading reading = new Reading(tape, taped);
        taped = 0;
        if (!reading.isWhole()) {
            latestFault = reading.fault;
            return FAULT - reading.first;
        }
        library = reading.told;
        forgetActs();
        return library.spots();
    }

    public int fault() {
        return latestFault;
    }

    public int hours(int n) {
        if (!library.isThere()) {
            return STATE;
        }
        if (n < 1 || n > DAY) {
            return BAD;
        }
        if (library.hour + n > LAST_HOUR) {
            return FULL;
        }
        for (int k = 0; k < n; k++) {
            keepForUndo();
            library.passHour();
        }
        return library.hour;
    }

    public int take(int spot, int n) {
        if (!library.isSpot(spot) || n < 1 || n > LONGEST_TAKE) {
            return BAD;
        }
        if (library.isOut(spot)) {
            return STATE;
        }
        keepForUndo();
        library.out[spot] = n;
        return library.wipe(spot);
    }

    public int change(int a, int b) {
        if (!library.isSpot(a) || !library.isSpot(b) || a == b) {
            return BAD;
        }
        if (library.isOut(a) || library.isOut(b)) {
            return STATE;
        }
        keepForUndo();
        library.swap(a, b);
        return library.book[a];
    }

    public int dusts(int set) {
        if (!library.isThere()) {
            return STATE;
        }
        if (!library.isSet(set)) {
            return BAD;
        }
        keepForUndo();
        int taken = 0;
        for (int s = 0; s < library.spots(); s++) {
            if (isIn(set, s)) {
                taken += library.wipe(s);
            }
        }
        return taken;
    }

    public int undo() {
        if (undoable == 0) {
            return STATE;
        }
        undoable--;
        library.become(past[(oldest + undoable) % ACTS]);
        return undoable;
    }

    public int spot(int spot, int what) {
        Place place = library.placeAt(spot);
        if (place == null) {
            return BAD;
        }
        switch (what) {
            case 0: return place.draught;
            case 1: return library.dust[spot];
            case 2: return library.book[spot];
            case 3: return library.faded[spot];
            case 4: return library.out[spot];
            default: return BAD;
        }
    }

    public int fall(int spot, int t, int what) {
        Place place = library.placeAt(spot);
        if (place == null || t < 0 || t > LAST_HOUR || !isEither(what)) {
            return BAD;
        }
        return what == 0 ? place.fallBy(place.draught, t) : place.sunIn(t);
    }

    // ---- foretold

    public int ahead(int spot, int n, int what) {
        if (!library.isSpot(spot) || n < 0 || n > FARTHEST || !isEither(what)) {
            return BAD;
        }
        return what == 0 ? library.dustBehind(spot, n) : library.fadedBehind(spot, n);
    }

    public int when(int spot, int dust, int what) {
        if (!canLie(spot, dust) || !isEither(what)) {
            return BAD;
        }
        return what == 0 ? library.firstTouch(spot, dust) : library.lastTouch(spot, dust);
    }

    public int who(int spot, int dust, int what) {
        if (!canLie(spot, dust) || !isEither(what)) {
            return BAD;
        }
        return library.suspects(spot, dust, what == 1);
    }

    public int oneHand(int set) {
        if (!library.isThere()) {
            return STATE;
        }
        if (!library.isSet(set)) {
            return BAD;
        }
        int hands = library.allReaders();
        for (int s = 0; s < library.spots(); s++) {
            if (isIn(set, s)) {
                int told = library.suspects(s, library.dust[s], false);
                hands &= told == NONE ? 0 : told;
            }
        }
        return hands;
    }

    public int moved() {
        if (!library.isThere()) {
            return STATE;
        }
        int set = 0;
        for (int s = 0; s < library.spots(); s++) {
            if (library.book[s] != s) {
                set |= 1 << s;
            }
        }
        return set;
    }

    public int like(int a, int b) {
        if (!library.isSpot(a) || !library.isSpot(b) || a == b) {
            return BAD;
        }
        int dustA = library.dust[a];
        int dustB = library.dust[b];
        for (int n = 0; n <= FARTHEST; n++) {
            if (dustA == dustB) {
                return n;
            }
            dustA = library.dustNext(a, dustA, n);
            dustB = library.dustNext(b, dustB, n);
        }
        return NONE;
    }

    public int hide(int d) {
        if (!library.isThere()) {
            return STATE;
        }
        if (d < 0 || d > MOST_DUST) {
            return BAD;
        }
        // All of them hide it always: then no BOOK has any DUST.
        int fewest = library.allSpots();
        for (int set = 0; set < library.allSpots(); set++) {
            if (Integer.bitCount(set) < Integer.bitCount(fewest) && library.spreadWithout(set) <= d) {
                fewest = set;
            }
        }
        return fewest;
    }

    public int learnt(int row, int i, int n, int spot) {
        Place place = library.placeAt(spot);
        if (!rows.isRow(row) || n < 1 || n > LONGEST_LESSON || place == null) {
            return BAD;
        }
        if (library.isOut(spot)) {
            return STATE;
        }
        finding = rows.findingAt(row, i, n);
        if (finding != 0) {
            return FINDING - finding;
        }
        for (int draught = 1; draught <= MOST_DRAUGHT; draught++) {
            if (wouldTell(row, i, n, spot, place, draught)) {
                return draught;
            }
        }
        return NONE;
    }

    public int image(int k) {
        if (k < 0 || k >= images.length) {
            return BAD;
        }
        if (!library.isThere()) {
            return STATE;
        }
        images[k].become(library);
        return 1;
    }

    public int restore(int k) {
        if (k < 0 || k >= images.length) {
            return BAD;
        }
        if (!images[k].isThere()) {
            return STATE;
        }
        library.become(images[k]);
        forgetActs();
        return 1;
    }

    // ---- asked

    public int kind(int spot) {
        Place place = library.placeAt(spot);
        return place == null ? BAD : place.kindTold();
    }

    public int as(int spot, int kind) {
        Place place = library.placeAt(spot);
        if (place == null || kind < 0 || kind >= KINDS) {
            return BAD;
        }
        finding = isOfKind(place, kind) ? 0 : KIND;
        return finding != 0 ? FINDING - finding : place.number;
    }

    public int ask(int spot, int what) {
        Place place = library.placeAt(spot);
        if (place == null || !isEither(what)) {
            return BAD;
        }
        trace.clear();
        int dust = library.dust[spot];
        return what == 0 ? place.askSize(trace, dust) : place.askMark(trace, dust);
    }

    public int trace(int i) {
        return trace.numberAt(i);
    }

    public int count(int what) {
        switch (what) {
            case 0: return rows.howMany();
            case 1: return library.spots();
            case 2: return library.readers();
            case 3: return library.hour;
            case 4: return undoable;
            case 5: return library.howManyOut();
            case 6: return taped;
            default: return BAD;
        }
    }

    public int status() {
        return finding;
    }

    // ---- helpers

    private void keepForUndo() {
        past[(oldest + undoable) % ACTS].become(library);
        if (undoable < ACTS) {
            undoable++;
        } else {
            oldest = (oldest + 1) % ACTS;
        }
    }

    private void forgetActs() {
        undoable = 0;
    }

    private boolean canLie(int spot, int dust) {
        return library.isSpot(spot) && dust >= 0 && dust <= MOST_DUST;
    }

    private boolean wouldTell(int row, int i, int n, int spot, Place place, int draught) {
        int dust = library.dust[spot];
        for (int k = 0; k < n; k++) {
            dust = atMost(dust + place.fallBy(draught, library.hour + k));
            if (dust != rows.itemAt(row, i + k)) {
                return false;
            }
        }
        return true;
    }

    private static boolean isEither(int what) {
        return what == 0 || what == 1;
    }

    private static boolean isIn(int set, int member) {
        return (set >> member & 1) == 1;
    }

    private static int atMost(int amount) {
        return Math.min(amount, MOST_DUST);
    }

    private static boolean isOfKind(Place place, int kind) {
        switch (kind) {
            case 0: return true;
            case 1: return place instanceof Open;
            case 2: return place instanceof Window;
            case 3: return place instanceof Hearth;
            case 4: return place instanceof Corner;
            default: return place instanceof Glass;
        }
    }

    /** The ROWS; who calls has looked at the row's number with isRow. */
    private static final class Rows {
        private final int[][] items = new int[ROWS][ITEMS];
        private final int[] lanes = new int[ROWS];
        /** How many ITEMS; below 0: the ROW is missing. */
        private final int[] sizes = new int[ROWS];

        Rows() {
            Arrays.fill(sizes, -1);
        }

        boolean isRow(int row) {
            return row >= 0 && row < ROWS;
        }

        boolean isMissing(int row) {
            return sizes[row] < 0;
        }

        int howMany() {
            int there = 0;
            for (int row = 0; row < ROWS; row++) {
                there += isMissing(row) ? 0 : 1;
            }
            return there;
        }

        void lay(int row, int lane, int n) {
            lanes[row] = lane;
            sizes[row] = n;
            Arrays.fill(items[row], 0);
        }

        int remove(int row) {
            int had = sizes[row];
            sizes[row] = -1;
            return had;
        }

        int findingAt(int row, int i, int n) {
            if (isMissing(row)) {
                return NULL;
            }
            return isWithin(row, i, n) ? 0 : PLACE;
        }

        int findingBetween(int a, int i, int b, int j, int n) {
            if (isMissing(a) || isMissing(b)) {
                return NULL;
            }
            if (lanes[a] != lanes[b]) {
                return STORE;
            }
            return isWithin(a, i, n) && isWithin(b, j, n) ? 0 : PLACE;
        }

        // Subtracted, as i + n may be too much for an int.
        private boolean isWithin(int row, int i, int n) {
            return i >= 0 && n >= 0 && i <= sizes[row] - n;
        }

        int put(int row, int i, int v) {
            int kept = v;
            if (lanes[row] == 0) {
                kept = (byte) v;
            } else if (lanes[row] == 1) {
                kept = (short) v;
            }
            items[row][i] = kept;
            return kept;
        }

        int itemAt(int row, int i) {
            return items[row][i];
        }

        void carry(int a, int i, int b, int j, int n) {
            System.arraycopy(items[a], i, items[b], j, n);
        }
    }

    /** The numbers of the BODIES that began in the latest ASK. */
    private static final class Trace {
        private final int[] numbers = new int[TRACED];
        private int length;

        void clear() {
            length = 0;
        }

        void leave(int body) {
            if (length < numbers.length) {
                numbers[length] = body;
                length++;
            }
        }

        int numberAt(int i) {
            return i >= 0 && i < length ? numbers[i] : NONE;
        }
    }

    /**
     * A SPOT, KIND 0. SIZE and MARK ask for one another, but never in a circle: of what is OPEN only
     * SIZE asks for MARK, of a CORNER only MARK asks for SIZE.
     */
    private abstract static class Place {
        final int number;
        final int draught;

        Place(int number, int draught) {
            this.number = number;
            this.draught = draught;
        }

        abstract int kindTold();

        /** FALL, if this were the DRAUGHT here. */
        int fallBy(int draughtHere, int t) {
            return draughtHere;
        }

        int sunIn(int t) {
            return 0;
        }

        int askSize(Trace trace, int dust) {
            trace.leave(10);
            return draught;
        }

        int askMark(Trace trace, int dust) {
            trace.leave(20);
            return number;
        }
    }

    private static class Open extends Place {
        Open(int number, int draught) {
            super(number, draught);
        }

        int kindTold() {
            return 1;
        }

        int askSize(Trace trace, int dust) {
            trace.leave(11);
            int lent = super.askSize(trace, dust);
            return lent + askMark(trace, dust);
        }

        int askMark(Trace trace, int dust) {
            trace.leave(21);
            return super.askMark(trace, dust) + dust;
        }
    }

    private static final class Window extends Open {
        Window(int number, int draught) {
            super(number, draught);
        }

        int kindTold() {
            return 2;
        }

        int sunIn(int t) {
            int hourOfDay = t % DAY;
            return hourOfDay >= 6 && hourOfDay <= 17 ? 1 : 0;
        }

        int askSize(Trace trace, int dust) {
            trace.leave(12);
            return -super.askSize(trace, dust);
        }

        int askMark(Trace trace, int dust) {
            trace.leave(24);
            return 2 * super.askMark(trace, dust);
        }
    }

    private static final class Hearth extends Open {
        Hearth(int number, int draught) {
            super(number, draught);
        }

        int kindTold() {
            return 3;
        }

        int fallBy(int draughtHere, int t) {
            int hourOfDay = t % DAY;
            return hourOfDay <= 5 || hourOfDay >= 18 ? 2 * draughtHere : draughtHere;
        }

        int askMark(Trace trace, int dust) {
            trace.leave(22);
            return super.askMark(trace, dust) - 1000;
        }
    }

    private static class Corner extends Place {
        Corner(int number, int draught) {
            super(number, draught);
        }

        int kindTold() {
            return 4;
        }

        int fallBy(int draughtHere, int t) {
            int half = draughtHere / 2;
            return t % 2 == 0 ? half : draughtHere - half;
        }

        int askSize(Trace trace, int dust) {
            trace.leave(13);
            return super.askSize(trace, dust) - 100;
        }

        int askMark(Trace trace, int dust) {
            trace.leave(23);
            int lent = super.askMark(trace, dust);
            return lent - askSize(trace, dust);
        }
    }

    private static final class Glass extends Corner {
        Glass(int number, int draught) {
            super(number, draught);
        }

        int kindTold() {
            return 5;
        }

        int fallBy(int draughtHere, int t) {
            return 0;
        }

        int askSize(Trace trace, int dust) {
            trace.leave(14);
            return 2 * super.askSize(trace, dust);
        }
    }

    /** What a TEXT tells for good: it may stand in the LIBRARY and in IMAGES at once. */
    private static final class Plan {
        private final Place[] places = new Place[SPOTS];
        private int spots;
        private final int[] from = new int[READERS];
        private final int[] to = new int[READERS];
        private int readers;

        void addPlace(Place place) {
            if (spots < SPOTS) {
                places[spots] = place;
                spots++;
            }
        }

        void addReader(int first, int last) {
            if (readers < READERS) {
                from[readers] = first;
                to[readers] = last;
                readers++;
            }
        }

        /** READERS (bits) who come in an HOUR. */
        int comers(int t) {
            int hourOfDay = t % DAY;
            int set = 0;
            for (int r = 0; r < readers; r++) {
                if (from[r] <= hourOfDay && hourOfDay <= to[r]) {
                    set |= 1 << r;
                }
            }
            return set;
        }
    }

    /** A LIBRARY as it is in an HOUR; without a plan there is none. */
    private static final class Library {
        private Plan plan;
        private int hour;
        private final int[] dust = new int[SPOTS];
        private final int[] book = new int[SPOTS];
        /** By SPOTS, of the BOOK that belongs there. */
        private final int[] faded = new int[SPOTS];
        private final int[] out = new int[SPOTS];

        Library(Plan plan) {
            this.plan = plan;
        }

        void become(Library other) {
            plan = other.plan;
            hour = other.hour;
            System.arraycopy(other.dust, 0, dust, 0, SPOTS);
            System.arraycopy(other.book, 0, book, 0, SPOTS);
            System.arraycopy(other.faded, 0, faded, 0, SPOTS);
            System.arraycopy(other.out, 0, out, 0, SPOTS);
        }

        boolean isThere() {
            return plan != null;
        }

        int spots() {
            return plan == null ? 0 : plan.spots;
        }

        int readers() {
            return plan == null ? 0 : plan.readers;
        }

        int allSpots() {
            return (1 << spots()) - 1;
        }

        int allReaders() {
            return (1 << readers()) - 1;
        }

        boolean isSpot(int spot) {
            return spot >= 0 && spot < spots();
        }

        boolean isSet(int set) {
            return (set & ~allSpots()) == 0;
        }

        Place placeAt(int spot) {
            return plan == null || spot < 0 || spot >= plan.spots ? null : plan.places[spot];
        }

        boolean isOut(int spot) {
            return out[spot] > 0;
        }

        int howManyOut() {
            int gone = 0;
            for (int s = 0; s < spots(); s++) {
                gone += isOut(s) ? 1 : 0;
            }
            return gone;
        }

        void passHour() {
            for (int s = 0; s < spots(); s++) {
                dust[s] = dustNext(s, dust[s], 0);
                faded[s] = fadedNext(s, faded[s], 0);
                out[s] = Math.max(out[s] - 1, 0);
            }
            hour++;
        }

        /** Takes the DUST away: how much there was. */
        int wipe(int spot) {
            int was = dust[spot];
            dust[spot] = 0;
            return was;
        }

        void swap(int a, int b) {
            int bookOfA = book[a];
            int fadedOfA = faded[a];
            book[a] = book[b];
            faded[a] = faded[b];
            book[b] = bookOfA;
            faded[b] = fadedOfA;
            wipe(a);
            wipe(b);
        }

        /** What so much DUST becomes in the HOUR that is n behind this one. */
        int dustNext(int spot, int now, int n) {
            return n < out[spot] ? now : atMost(now + fallAt(spot, hour + n));
        }

        private int fadedNext(int spot, int now, int n) {
            Place place = placeAt(spot);
            return place == null || n < out[spot] ? now : atMost(now + place.sunIn(hour + n));
        }

        private int fallAt(int spot, int t) {
            Place place = placeAt(spot);
            return place == null ? 0 : place.fallBy(place.draught, t);
        }

        int dustBehind(int spot, int n) {
            int amount = dust[spot];
            for (int k = 0; k < n; k++) {
                amount = dustNext(spot, amount, k);
            }
            return amount;
        }

        int fadedBehind(int spot, int n) {
            int amount = faded[spot];
            for (int k = 0; k < n; k++) {
                amount = fadedNext(spot, amount, k);
            }
            return amount;
        }

        int lastTouch(int spot, int dustNow) {
            int fallen = 0;
            int t = hour;
            while (t > 0 && fallen < dustNow) {
                t--;
                fallen += fallAt(spot, t);
            }
            return fallen == dustNow ? t : NONE;
        }

        // Where nothing falls, HOURS further back tell the same DUST.
        int firstTouch(int spot, int dustNow) {
            int first = lastTouch(spot, dustNow);
            while (first > 0 && fallAt(spot, first - 1) == 0) {
                first--;
            }
            return first;
        }

        /** READERS (bits) who come in one HOUR of these at least, or in each. */
        int suspects(int spot, int dustNow, boolean inEach) {
            int first = firstTouch(spot, dustNow);
            if (plan == null || first == NONE) {
                return NONE;
            }
            // What can be the touch stands together: FALL is never below 0.
            int last = lastTouch(spot, dustNow);
            int inOne = 0;
            int inAll = allReaders();
            for (int t = first; t <= last; t++) {
                int here = plan.comers(t);
                inOne |= here;
                inAll &= here;
            }
            return inEach ? inAll : inOne;
        }

        /** By how much DUST on BOOKS that stand differs at most, were these SPOTS dusted. */
        int spreadWithout(int dusted) {
            int most = -1;
            int least = MOST_DUST + 1;
            for (int s = 0; s < spots(); s++) {
                if (!isOut(s)) {
                    int lies = isIn(dusted, s) ? 0 : dust[s];
                    most = Math.max(most, lies);
                    least = Math.min(least, lies);
                }
            }
            return most - least;
        }
    }

    /** Reads a TEXT, TOKEN by TOKEN, up to the first FAULT. */
    private static final class Reading {
        private static final int END = 0, NAME = 1, NUMBER = 2, SIGN = 3, NO_TOKEN = 4;

        private final byte[] text;
        private final int length;
        /** The latest TOKEN: what it is, its first byte, the one behind its last. */
        private int form;
        private int first;
        private int behind;
        private int fault;
        private final Plan plan;
        private final Library told;

        Reading(byte[] text, int length) {
            this.text = text;
            this.length = Math.min(length, text.length);
            plan = new Plan();
            told = new Library(plan);
        }

        /** Reads all: there was no FAULT. */
        boolean isWhole() {
            advance();
            readSpots();
            readReaders();
            if (form != END) {
                fail(1);
            }
            return fault == 0;
        }

        private void readSpots() {
            if (!isWord("spot")) {
                fail(1);
            }
            for (int s = 0; s <= SPOTS && fault == 0 && isWord("spot"); s++) {
                if (s == SPOTS) {
                    fail(3);
                } else {
                    advance();
                    readSpot(s);
                }
            }
        }

        private void readSpot(int s) {
            int kind = readKind();
            int draught = readNumber(1, MOST_DRAUGHT);
            int dust = readNumber(0, MOST_TOLD);
            int faded = readNumber(0, MOST_TOLD);
            readEnd();
            if (fault == 0) {
                plan.addPlace(newPlace(kind, s, draught));
                told.dust[s] = dust;
                told.faded[s] = faded;
                told.book[s] = s;
            }
        }

        private void readReaders() {
            for (int r = 0; r <= READERS && fault == 0 && isWord("reader"); r++) {
                if (r == READERS) {
                    fail(3);
                } else {
                    advance();
                    readReader();
                }
            }
        }

        private void readReader() {
            int from = readNumber(0, DAY - 1);
            int to = readNumber(from, DAY - 1);
            readEnd();
            if (fault == 0) {
                plan.addReader(from, to);
            }
        }

        private int readKind() {
            int kind = kindOfWord();
            if (kind == 0) {
                fail(1);
            } else {
                advance();
            }
            return kind;
        }

        private int kindOfWord() {
            if (isWord("open")) {
                return 1;
            }
            if (isWord("window")) {
                return 2;
            }
            if (isWord("hearth")) {
                return 3;
            }
            if (isWord("corner")) {
                return 4;
            }
            return isWord("glass") ? 5 : 0;
        }

        private static Place newPlace(int kind, int number, int draught) {
            switch (kind) {
                case 1: return new Open(number, draught);
                case 2: return new Window(number, draught);
                case 3: return new Hearth(number, draught);
                case 4: return new Corner(number, draught);
                default: return new Glass(number, draught);
            }
        }

        private int readNumber(int low, int high) {
            int value = 0;
            if (form == NUMBER) {
                for (int k = first; k < behind; k++) {
                    value = value * 10 + text[k] - '0';
                }
            }
            if (form != NUMBER) {
                fail(1);
            } else if (value < low || value > high) {
                fail(2);
            } else {
                advance();
            }
            return value;
        }

        private void readEnd() {
            if (form == SIGN) {
                advance();
            } else {
                fail(1);
            }
        }

        /** The first FAULT counts, and what would follow it stays unread. */
        private void fail(int number) {
            if (fault == 0) {
                fault = number;
            }
        }

        private boolean isWord(String word) {
            if (form != NAME || behind - first != word.length()) {
                return false;
            }
            for (int k = 0; k < word.length(); k++) {
                if (text[first + k] != word.charAt(k)) {
                    return false;
                }
            }
            return true;
        }

        private void advance() {
            if (fault != 0) {
                return;
            }
            first = behind;
            while (first < length && (text[first] == 32 || text[first] == 10)) {
                first++;
            }
            behind = first;
            while (behind < length && isLetter(text[behind])) {
                behind++;
            }
            if (behind > first) {
                form = NAME;
                return;
            }
            while (behind < length && isFigure(text[behind])) {
                behind++;
            }
            if (behind > first) {
                form = behind - first > 3 ? NO_TOKEN : NUMBER;
            } else {
                advanceOverSign();
            }
        }

        private void advanceOverSign() {
            if (first >= length) {
                form = END;
                return;
            }
            form = text[first] == ';' ? SIGN : NO_TOKEN;
            behind = first + 1;
        }

        private static boolean isLetter(byte sign) {
            return sign >= 'a' && sign <= 'z';
        }

        private static boolean isFigure(byte sign) {
            return sign >= '0' && sign <= '9';
        }
    }
}
