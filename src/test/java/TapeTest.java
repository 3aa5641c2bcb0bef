/** Promises 1, 6, 7 and 8. */
final class TapeTest {
    private static final String SPOT = "spot open 1 0 0;";

    public static void main(String[] args) {
        newObjectIsEmpty();
        constantsAreTold();
        feedTakesBytes();
        feedIsRefused();
        tokensMayStandAnyhow();
        wordsTellSorts();
        faultsOfWords();
        faultsOfNumbers();
        faultsOfRoom();
        endIsAFault();
        strangeBytesAreFaults();
        faultLeavesAllElse();
        readingBeginsAnew();
        longestTape();
        Due.end("TapeTest");
    }

    private static void newObjectIsEmpty() {
        DustReads x = new DustReads();
        for (int what = 0; what < 7; what++) {
            Due.is("count " + what, x.count(what), 0);
        }
        Due.is("fault", x.fault(), 0);
        Due.is("status", x.status(), 0);
        Due.is("trace", x.trace(0), Due.NONE);
        Due.is("hours", x.hours(1), Due.STATE);
        Due.is("hours ahead of BAD", x.hours(0), Due.STATE);
        Due.is("dusts", x.dusts(-1), Due.STATE);
        Due.is("oneHand", x.oneHand(-1), Due.STATE);
        Due.is("hide", x.hide(-1), Due.STATE);
        Due.is("moved", x.moved(), Due.STATE);
        Due.is("undo", x.undo(), Due.STATE);
        Due.is("image", x.image(0), Due.STATE);
        Due.is("restore", x.restore(1), Due.STATE);
        Due.is("spot", x.spot(0, 0), Due.BAD);
        Due.is("take", x.take(0, 1), Due.BAD);
        Due.is("kind", x.kind(0), Due.BAD);
        x.row(0, 0, 1);
        Due.is("learnt", x.learnt(0, 0, 1, 0), Due.BAD);
    }

    private static void constantsAreTold() {
        Due.is("NONE", DustReads.NONE, -1000000);
        Due.is("BAD", DustReads.BAD, -1000001);
        Due.is("STATE", DustReads.STATE, -1000002);
        Due.is("FULL", DustReads.FULL, -1000003);
    }

    private static void feedTakesBytes() {
        DustReads x = new DustReads();
        Due.is("one byte", x.feed(0x7fL << 8 | 's', 1), 1);
        Due.is("two bytes, the highest first", x.feed('p' << 8 | 'o', 2), 3);
        Due.is("one more", x.feed('t', 1), 4);
        Due.feed(x, " open 1 0 0;");
        Due.is("on the tape", x.count(6), 16);
        Due.is("it is a text", x.library(), 1);
        Due.is("the tape is empty", x.count(6), 0);
        Due.is("eight bytes", x.feed(-1L, 8), 8);
        Due.is("their first is a fault", x.library(), -1000100);
        x.feed(0x3b20202020202020L, 7);
        Due.is("seven bytes of eight, all blank", x.library(), -1000107);
        x.feed(0x3b20202020202020L, 8);
        Due.is("eight of eight", x.library(), -1000100);
    }

    private static void feedIsRefused() {
        DustReads x = new DustReads();
        Due.is("n 0", x.feed(32, 0), Due.BAD);
        Due.is("n 9", x.feed(32, 9), Due.BAD);
        Due.is("n -1", x.feed(32, -1), Due.BAD);
        Due.is("n least", x.feed(32, Integer.MIN_VALUE), Due.BAD);
        Due.is("none came", x.count(6), 0);
        for (int k = 0; k < 49; k++) {
            x.feed(0x2020202020202020L, 8);
        }
        Due.is("nearly full", x.feed(0x20202020202020L, 7), 399);
        Due.is("too much", x.feed(0x2020, 2), Due.FULL);
        Due.is("none of it came", x.count(6), 399);
        Due.is("BAD ahead of FULL", x.feed(0, 9), Due.BAD);
        Due.is("the last", x.feed(0x20, 1), 400);
        Due.is("full", x.feed(0x20, 1), Due.FULL);
        Due.is("its end", x.library(), -1000500);
        Due.is("room again", x.feed(0x20, 1), 1);
    }

    private static void tokensMayStandAnyhow() {
        DustReads x = new DustReads();
        Due.is("blanks", Due.read(x, "\n spot \n\n open  1\n0 0 ; \n"), 1);
        Due.is("no blanks", Due.read(x, "spot open2 3 4;spot glass5 6 7;reader0 1;"), 2);
        Due.is("draught", x.spot(1, 0), 5);
        Due.is("figures ahead", Due.read(x, "spot open 005 099 007;reader 00 023;"), 1);
        Due.is("draught", x.spot(0, 0), 5);
        Due.is("dust", x.spot(0, 1), 99);
        Due.is("faded", x.spot(0, 3), 7);
        Due.is("0 is all that is needed", Due.read(x, "spot open 1 000 0;"), 1);
        Due.is("one name", Due.read(x, "spotopen 1 0 0;"), -1000100);
        Due.is("a name broken", Due.read(x, "sp ot open 1 0 0;"), -1000100);
        Due.is("a number broken", Due.read(x, "spot open 1 0 0 0;"), -1000116);
        Due.is("number, name", Due.read(x, "spot open 1 0 0;reader 1 2;x"), -1000127);
    }

    private static void wordsTellSorts() {
        DustReads x = Due.of("spot open 1 0 0;spot window 2 1 5;spot corner 3 2 6;spot glass 4 3 7;spot hearth 5 4 8;");
        int[] kinds = {1, 2, 4, 5, 3};
        for (int s = 0; s < 5; s++) {
            Due.is("kind " + s, x.kind(s), kinds[s]);
            Due.is("draught " + s, x.spot(s, 0), s + 1);
            Due.is("dust " + s, x.spot(s, 1), s);
            Due.is("book " + s, x.spot(s, 2), s);
            Due.is("faded " + s, x.spot(s, 3), s == 0 ? 0 : s + 4);
            Due.is("out " + s, x.spot(s, 4), 0);
        }
        Due.is("spots", x.count(1), 5);
        Due.is("readers", x.count(2), 0);
    }

    private static void told(String text, int place, int number) {
        DustReads x = new DustReads();
        Due.is("library of '" + text + "'", Due.read(x, text), -1000100 - place);
        Due.is("fault of '" + text + "'", x.fault(), number);
        Due.is("no library", x.moved(), Due.STATE);
        Due.is("the tape is empty", x.count(6), 0);
    }

    private static void faultsOfWords() {
        told("reader 1 1;", 0, 1);
        told("  spots open 1 0 0;", 2, 1);
        told("spo open 1 0 0;", 0, 1);
        told("xpot open 1 0 0;", 0, 1);
        told("spox open 1 0 0;", 0, 1);
        told("spot xpen 1 0 0;", 5, 1);
        told("spot open 1 0 0;xeader 1 1;", 16, 1);
        told("spot spot 1 0 0;", 5, 1);
        told("spot opens 1 0 0;", 5, 1);
        told("spot ope 1 0 0;", 5, 1);
        told("spot 1 1 0 0;", 5, 1);
        told("spot ; 1 0 0;", 5, 1);
        told("spot open open 0 0;", 10, 1);
        told("spot open 1 ; 0 0;", 12, 1);
        told("spot open 1 0 x;", 14, 1);
        told("spot open 1 0 0 spot", 16, 1);
        told("spot open 1 0 0;;", 16, 1);
        told("spot open 1 0 0;1", 16, 1);
        told("spot open 1 0 0;open", 16, 1);
        told("spot open 1 0 0;reader spot", 23, 1);
        told("spot open 1 0 0;reader 1 ;", 25, 1);
        told("spot open 1 0 0;reader 1 1 1;", 27, 1);
        told("spot open 1 0 0;reader 1 1;;", 27, 1);
        told(SPOT + "reader 1 1;" + SPOT, 27, 1);
        told("; " + SPOT, 0, 1);
    }

    private static void faultsOfNumbers() {
        told("spot open 0 0 0;", 10, 2);
        told("spot open 6 0 0;", 10, 2);
        told("spot open 999 0 0;", 10, 2);
        told("spot open 1 100 0;", 12, 2);
        told("spot open 1 99 100;", 15, 2);
        told("spot open 0 100 100;", 10, 2);
        told("spot open 1000 0 0;", 10, 1);
        told("spot open 0001 0 0;", 10, 1);
        told("spot open 1 00000 0;", 12, 1);
        told("spot open 1 0 1000;", 14, 1);
        told("spot open 12345678901234567890 0 0;", 10, 1);
        told("spot 1000 1 0 0;", 5, 1);
        told("1000", 0, 1);
        told(SPOT + "reader 24 24;", 23, 2);
        told(SPOT + "reader 23 24;", 26, 2);
        told(SPOT + "reader 5 4;", 25, 2);
        told(SPOT + "reader 5 999;", 25, 2);
        told(SPOT + "reader 1000 5;", 23, 1);
        told(SPOT + "reader 5 0005;", 25, 1);
        Due.is("least and most", Due.read(new DustReads(), "spot open 5 99 99;reader 0 0;reader 23 23;reader 0 23;"), 1);
    }

    private static void faultsOfRoom() {
        String seven = SPOT + SPOT + SPOT + SPOT + SPOT + SPOT + SPOT;
        String four = "reader 1 1;reader 2 2;reader 3 3;reader 4 4;";
        DustReads x = new DustReads();
        Due.is("seven", Due.read(x, seven), 7);
        Due.is("seven and four", Due.read(x, seven + four), 7);
        Due.is("readers", x.count(2), 4);
        told(seven + " " + SPOT, 113, 3);
        told(seven + "spot", 112, 3);
        told(seven + "spot 1000", 112, 3);
        told(seven + four + "\nreader 5 5;", 157, 3);
        told(SPOT + four + "reader", 60, 3);
        told(SPOT + four + "spot", 60, 1);
        told(seven + "spots", 112, 1);
    }

    private static void endIsAFault() {
        String[] words = {"spot ", "open ", "1 ", "0 ", "0 ", ";"};
        StringBuilder text = new StringBuilder(" ");
        told("", 0, 1);
        told("   ", 3, 1);
        for (String word : words) {
            told(text.toString(), text.length(), 1);
            text.append(word);
        }
        for (String word : new String[] {"reader ", "0 ", "1 ", ""}) {
            text.append(word);
            if (word.isEmpty()) {
                Due.is("ends", Due.read(new DustReads(), text + ";"), 1);
            } else {
                told(text.toString(), text.length(), 1);
            }
        }
        told("spo", 0, 1);
        told("spot", 4, 1);
        told("spot\n\n", 6, 1);
    }

    private static void strangeBytesAreFaults() {
        for (int code = 0; code < 256; code++) {
            boolean blank = code == 32 || code == 10;
            DustReads x = new DustReads();
            int due = blank ? 1 : -1000116;
            Due.is("byte " + code + " behind", Due.read(x, SPOT + (char) code), due);
            Due.is("byte " + code + " between", Due.read(x, "spot" + (char) code + "open 1 0 0;"),
                blank ? 1 : code >= 'a' && code <= 'z' ? -1000100 : -1000104);
        }
        told("Spot open 1 0 0;", 0, 1);
        told("spot Open 1 0 0;", 5, 1);
        told("spot open -1 0 0;", 10, 1);
        told("spot open 1, 0 0;", 11, 1);
        told("spot\topen 1 0 0;", 4, 1);
        told("spot open 1 0 0:", 15, 1);
    }

    private static void faultLeavesAllElse() {
        DustReads x = Due.of("spot open 2 3 4;reader 0 23;");
        Due.pass(x, 2);
        x.image(0);
        Due.is("fault", Due.read(x, "spot open 1 0 0;spot window 9 0 0;"), -1000128);
        Due.is("its number", x.fault(), 2);
        Due.is("spots", x.count(1), 1);
        Due.is("hour", x.count(3), 2);
        Due.is("acts", x.count(4), 2);
        Due.is("dust", x.spot(0, 1), 7);
        Due.is("draught", x.spot(0, 0), 2);
        Due.is("readers", x.count(2), 1);
        Due.is("a reading without one", Due.read(x, SPOT), 1);
        Due.is("leaves fault()", x.fault(), 2);
        Due.read(x, "x");
        Due.is("the latest", x.fault(), 1);
    }

    private static void readingBeginsAnew() {
        DustReads x = Due.of("spot open 2 3 4;spot corner 3 1 1;reader 0 23;");
        x.row(2, 0, 3);
        x.image(1);
        Due.pass(x, 3);
        x.change(0, 1);
        x.take(1, 5);
        x.ask(0, 0);
        Due.is("anew", Due.read(x, "spot glass 1 9 8;spot open 2 7 6;spot open 1 5 4;reader 3 3;reader 4 5;"), 3);
        Due.is("hour", x.count(3), 0);
        Due.is("no acts", x.count(4), 0);
        Due.is("undo", x.undo(), Due.STATE);
        Due.is("nothing out", x.count(5), 0);
        Due.is("out", x.spot(1, 4), 0);
        Due.is("moved", x.moved(), 0);
        Due.is("readers", x.count(2), 2);
        Due.is("rows stay", x.count(0), 1);
        Due.is("the trace stays", x.trace(0), 11);
        Due.is("dust", x.spot(0, 1), 9);
        Due.is("image stays", x.restore(1), 1);
        Due.is("its spots", x.count(1), 2);
        Due.is("fewer spots", Due.read(x, SPOT), 1);
        Due.is("those before are gone", x.spot(1, 0), Due.BAD);
        Due.is("readers are gone", x.count(2), 0);
    }

    private static void longestTape() {
        StringBuilder text = new StringBuilder("spot open 1 0 0");
        while (text.length() < 399) {
            text.append('\n');
        }
        Due.is("400 bytes", Due.read(new DustReads(), text + ";"), 1);
        told(text + "1", 399, 1);
    }
}
