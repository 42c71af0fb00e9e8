/** For each promise of the document, in its order: ordinary calls, the edges it names, wrong numbers. */
public final class PromisesTest {
    private static final int BAD = -1, NO = -2, FULL = -3, NONE = -4, HARM = -5;
    private static final String ALL_MAY = "r0,4,5,0,23;r1,4,5,0,23;";
    private static int promise = 0;
    private static int checks = 0;
    private static int wrong = 0;

    private static void due(String call, int got, int want) {
        checks++;
        if (got != want) {
            wrong++;
            System.out.println("promise " + promise + ": " + call + " answered " + got + ", due is " + want);
        }
    }

    public static void main(String[] args) {
        promise = 1; newObject();
        promise = 2; thing();
        promise = 3; go();
        promise = 4; state();
        promise = 5; doubt();
        promise = 6; word();
        promise = 7; rule();
        promise = 8; write();
        promise = 9; wipe();
        promise = 10; fault();
        promise = 11; force();
        promise = 12; may();
        promise = 13; barred();
        promise = 14; hear(); allFull(); prices(); orderOfReadings();
        promise = 15; reading(); meant(); it();
        promise = 16; open();
        promise = 17; ask();
        promise = 18; answer();
        promise = 19; done(); doneFull(); doneHarm(); doneFires();
        promise = 20; undo();
        promise = 21; when();
        promise = 22; at();
        promise = 23; ticks(); row(); held();
        promise = 24; quarrel();
        promise = 25; wake();
        promise = 26; show(); showOrder(); showThirty(); eightStanding();
        promise = 27; habits(); daysOfHabits(); logFull();
        promise = 28; keepHabit();
        promise = 29; forget();
        promise = 30; cost();
        promise = 31; why();
        promise = 32; count();
        System.out.println(wrong == 0 ? checks + " answers are as due" : wrong + " answers are not as due");
        if (wrong != 0) {
            System.exit(1);
        }
    }

    // ---- helpers

    private static void text(HeededWishes x, String text) {
        for (int k = 0; k < text.length(); k++) {
            x.write(1, text.charAt(k));
        }
    }

    private static void inForce(HeededWishes x, String text) {
        x.wipe();
        text(x, text);
        x.force();
    }

    private static int faultOf(String text) {
        HeededWishes x = new HeededWishes();
        text(x, text);
        return x.fault();
    }

    /**
     * Folk 0 and 1 in room 0, who may all; words 0 to 3 VERB 0 to 3 (sounds 0 to 3), 4 to 7 SORT 0 to 3
     * (sounds 4 to 7), 8 to 12 ROOM 0 to 4 (sounds 8 to 12), 13 IT (sound 13).
     */
    private static HeededWishes speakers() {
        HeededWishes x = new HeededWishes();
        for (int k = 0; k < 4; k++) { x.word(0, k, 1, k); }
        for (int k = 0; k < 4; k++) { x.word(1, k, 1, 4 + k); }
        for (int k = 0; k < 5; k++) { x.word(2, k, 1, 8 + k); }
        x.word(3, 0, 1, 13);
        x.go(0, 0);
        x.go(1, 0);
        inForce(x, ALL_MAY);
        return x;
    }

    /** Heard word for word, without a doubt: what done() answers. */
    private static int wish(HeededWishes x, int folk, int n, int sounds) {
        x.hear(folk, 100, n, sounds);
        return x.done();
    }

    // ---- 1 to 7: the house

    private static void newObject() {
        HeededWishes x = new HeededWishes();
        for (int what = 0; what <= 9; what++) { due("count", x.count(what), 0); }
        due("fault", x.fault(), NONE);
        due("force", x.force(), 0);
        due("barred", x.barred(), 0);
        due("cost(-1)", x.cost(-1), 0);
        due("open", x.open(), NO);
        due("LIMIT", x.rule(0, 1), 20);
        due("MARGIN", x.rule(1, 1), 3);
        due("SURE", x.rule(2, 1), 60);
        due("DOUBT", x.doubt(0, 15, 1), 9);
        for (int f = 0; f < 6; f++) { due("go", x.go(f, 0), -1); }
    }

    private static void thing() {
        HeededWishes x = new HeededWishes();
        due("room -1", x.thing(-1, 0, 0), BAD);
        due("room 5", x.thing(5, 0, 0), BAD);
        due("sort -1", x.thing(0, -1, 0), BAD);
        due("sort 4", x.thing(0, 4, 0), BAD);
        due("cost -1", x.thing(0, 0, -1), BAD);
        due("cost 101", x.thing(0, 0, 101), BAD);
        due("extremes", x.thing(Integer.MIN_VALUE, Integer.MAX_VALUE, Integer.MIN_VALUE), BAD);
        for (int k = 0; k < 10; k++) { due("thing", x.thing(k % 5, k % 4, k * 11), k); }
        due("the eleventh", x.thing(0, 0, 0), FULL);
        due("BAD ahead of FULL", x.thing(5, 0, 0), BAD);
        due("count", x.count(0), 10);
        HeededWishes y = new HeededWishes();
        due("top", y.thing(4, 3, 100), 0);
    }

    private static void go() {
        HeededWishes x = new HeededWishes();
        due("in", x.go(5, 4), -1);
        due("on", x.go(5, 0), 4);
        due("where it is", x.go(5, 0), 0);
        due("out", x.go(5, -1), 0);
        due("out again", x.go(5, -1), -1);
        due("folk -1", x.go(-1, 0), -100);
        due("folk 6", x.go(6, 0), -100);
        due("room -2", x.go(5, -2), -100);
        due("room 5", x.go(5, 5), -100);
        due("nothing changed", x.go(5, 1), -1);
    }

    private static void state() {
        HeededWishes x = speakers();
        due("none there", x.state(0), BAD);
        x.thing(0, 0, 0);
        due("at first", x.state(0), 0);
        wish(x, 0, 2, 0x34);
        due("behind a wish", x.state(0), 3);
        due("not there", x.state(1), BAD);
        due("-1", x.state(-1), BAD);
        due("10", x.state(10), BAD);
    }

    private static void doubt() {
        HeededWishes x = new HeededWishes();
        due("at first", x.doubt(0, 15, 0), 9);
        due("changed", x.doubt(0, 15, 9), 0);
        due("the other way", x.doubt(15, 0, 4), 9);
        due("not changed by it", x.doubt(0, 15, 9), 9);
        due("alike", x.doubt(3, 3, 0), BAD);
        due("told -1", x.doubt(-1, 0, 0), BAD);
        due("told 16", x.doubt(16, 0, 0), BAD);
        due("heard -1", x.doubt(0, -1, 0), BAD);
        due("heard 16", x.doubt(0, 16, 0), BAD);
        due("v -1", x.doubt(15, 0, -1), BAD);
        due("v 10", x.doubt(15, 0, 10), BAD);
        due("nothing changed", x.doubt(15, 0, 5), 4);
    }

    private static void word() {
        HeededWishes x = new HeededWishes();
        due("kind -1", x.word(-1, 0, 1, 0), BAD);
        due("kind 4", x.word(4, 0, 1, 0), BAD);
        due("VERB 4", x.word(0, 4, 1, 0), BAD);
        due("SORT 4", x.word(1, 4, 1, 0), BAD);
        due("ROOM 5", x.word(2, 5, 1, 0), BAD);
        due("IT 1", x.word(3, 1, 1, 0), BAD);
        due("number -1", x.word(0, -1, 1, 0), BAD);
        due("n 0", x.word(0, 0, 0, 0), BAD);
        due("n 5", x.word(0, 0, 5, 0), BAD);
        due("v -1", x.word(0, 0, 4, -1), BAD);
        due("v 16 of 1", x.word(0, 0, 1, 16), BAD);
        due("v 256 of 2", x.word(0, 0, 2, 256), BAD);
        due("v 65536 of 4", x.word(0, 0, 4, 65536), BAD);
        due("VERB 3", x.word(0, 3, 4, 65535), 0);
        due("SORT 3", x.word(1, 3, 1, 15), 1);
        due("ROOM 4", x.word(2, 4, 3, 4095), 2);
        due("IT 0", x.word(3, 0, 2, 0), 3);
        for (int k = 4; k < 16; k++) { due("alike ones, too", x.word(0, 3, 4, 65535), k); }
        due("the 17th", x.word(0, 0, 1, 0), FULL);
        due("BAD ahead of FULL", x.word(0, 4, 1, 0), BAD);
        due("count", x.count(1), 16);
    }

    private static void rule() {
        HeededWishes x = new HeededWishes();
        int[] first = {20, 3, 60};
        int[] top = {50, 20, 100};
        for (int what = 0; what < 3; what++) {
            due("-1", x.rule(what, -1), BAD);
            due("above", x.rule(what, top[what] + 1), BAD);
            due("to the top", x.rule(what, top[what]), first[what]);
            due("to 0", x.rule(what, 0), top[what]);
            due("from 0", x.rule(what, 1), 0);
        }
        due("what -1", x.rule(-1, 0), BAD);
        due("what 3", x.rule(3, 0), BAD);
    }

    // ---- 8 to 13: rules

    private static void write() {
        HeededWishes x = new HeededWishes();
        due("n 0", x.write(0, 0), BAD);
        due("n 9", x.write(9, 0), BAD);
        due("n -1", x.write(-1, 0), BAD);
        due("the highest first", x.write(5, 0x6E302C313BL), 5);
        due("n0,1;", x.force(), 1);
        due("no higher bytes", x.write(5, 0x11116E302C313BL), 10);
        due("two", x.force(), 2);
        due("all bits", x.write(8, -1L), 18);
        due("fault behind", x.fault(), 10);
        for (int k = 0; k < 22; k++) { due("more", x.write(8, 0), 26 + 8 * k); }
        due("194", x.count(2), 194);
        due("too many", x.write(7, 0), FULL);
        due("nothing changed", x.count(2), 194);
        due("BAD ahead of FULL", x.write(9, 0), BAD);
        due("to the brim", x.write(6, 0), 200);
        due("one more", x.write(1, 0), FULL);
    }

    private static void wipe() {
        HeededWishes x = new HeededWishes();
        due("empty", x.wipe(), 0);
        inForce(x, "n0,1;x0,1,1,1;");
        due("wiped", x.wipe(), 14);
        due("length", x.count(2), 0);
        due("in force still", x.count(3), 2);
        due("no fault", x.fault(), NONE);
        due("again", x.wipe(), 0);
        due("write anew", x.write(1, 'q'), 1);
    }

    private static void fault() {
        due("empty", faultOf(""), NONE);
        due("r", faultOf("r0,0,0,0,0;"), NONE);
        due("r tops", faultOf("r6,4,5,23,23;"), NONE);
        due("two figures", faultOf("r06,04,05,00,09;"), NONE);
        due("x", faultOf("x9,3,9,3;x0,1,0,0;"), NONE);
        due("n", faultOf("n9,3;n0,1;"), NONE);
        due("F", faultOf("n0,1;r7,0,0,0,0;"), 5);
        due("S", faultOf("r0,5,0,0,0;"), 0);
        due("R", faultOf("r0,0,6,0,0;"), 0);
        due("a above b", faultOf("r0,0,0,2,1;"), 0);
        due("b", faultOf("r0,0,0,0,24;"), 0);
        due("a", faultOf("r0,0,0,24,24;"), 0);
        due("x T", faultOf("x10,1,0,0;"), 0);
        due("x v 0", faultOf("x0,0,0,0;"), 0);
        due("x v 4", faultOf("x0,4,0,0;"), 0);
        due("x U", faultOf("x0,1,10,0;"), 0);
        due("x w", faultOf("x0,1,0,4;"), 0);
        due("n T", faultOf("n10,1;"), 0);
        due("n v 0", faultOf("n0,0;"), 0);
        due("n v 4", faultOf("n0,4;"), 0);
        due("three figures", faultOf("n0,001;"), 0);
        due("no figure", faultOf("n0,;"), 0);
        due("no number", faultOf("n;"), 0);
        due("too few", faultOf("n0;"), 0);
        due("too many", faultOf("n0,1,1;"), 0);
        due("no end", faultOf("n0,1;n0,1"), 5);
        due("letter alone", faultOf("n0,1;n"), 5);
        due("other letter", faultOf("n0,1;N0,1;"), 5);
        due("other sign", faultOf("n0.1;"), 0);
        due("blank", faultOf("n0,1; n0,1;"), 5);
        due("empty item", faultOf("n0,1;;"), 5);
        due("below 0", faultOf("n0,-1;"), 0);
        due("high byte", faultOf("n0,1;\u00ff"), 5);
        due("the first of two", faultOf("n0,1;n0,9;n0,9;"), 5);
        HeededWishes x = new HeededWishes();
        text(x, "n0,1;n0,12;");
        x.wipe();
        text(x, "n0,1");
        due("what was wiped is no end", x.fault(), 0);
        text(x, ";n0,");
        due("nor a figure", x.fault(), 5);
    }

    private static void force() {
        HeededWishes x = new HeededWishes();
        x.thing(0, 0, 0);
        due("empty", x.force(), 0);
        text(x, "r0,4,5,0,23;");
        due("not yet", x.may(0, 0, 0), 0);
        due("force", x.force(), 1);
        due("now", x.may(0, 0, 0), 1);
        due("the text stays", x.count(2), 12);
        text(x, "q");
        due("a fault", x.force(), NO);
        due("as it was", x.may(0, 0, 0), 1);
        due("as many", x.count(3), 1);
        x.wipe();
        due("empty again", x.force(), 0);
        due("none in force", x.may(0, 0, 0), 0);
        for (int k = 0; k < 40; k++) { text(x, "n0,1;"); }
        due("forty", x.force(), 40);
        due("forty counted", x.count(3), 40);
    }

    private static void may() {
        HeededWishes x = new HeededWishes();
        x.thing(0, 0, 0);
        x.thing(1, 2, 0);
        inForce(x, "r0,0,5,6,22;r1,4,1,0,23;r6,2,1,8,8;r5,3,0,0,23;");
        due("a", x.may(0, 0, 6), 1);
        due("b", x.may(0, 0, 22), 1);
        due("ahead of a", x.may(0, 0, 5), 0);
        due("behind b", x.may(0, 0, 23), 0);
        due("other sort", x.may(0, 1, 8), 0);
        due("any sort", x.may(1, 1, 0), 1);
        due("other room", x.may(1, 0, 0), 0);
        due("guest", x.may(6, 1, 8), 1);
        due("guest at 9", x.may(6, 1, 9), 0);
        due("a guest's right is no other's", x.may(2, 1, 8), 0);
        due("folk 5", x.may(5, 0, 0), 0);
        due("folk -1", x.may(-1, 0, 0), BAD);
        due("folk 7", x.may(7, 0, 0), BAD);
        due("thing -1", x.may(0, -1, 0), BAD);
        due("thing 2", x.may(0, 2, 0), BAD);
        due("hour -1", x.may(0, 0, -1), BAD);
        due("hour 24", x.may(0, 0, 24), BAD);
    }

    private static void barred() {
        HeededWishes x = speakers();
        x.thing(0, 0, 0);
        x.thing(0, 0, 0);
        x.thing(1, 2, 0);
        wish(x, 0, 2, 0x24);
        due("both at 2", x.state(0) + x.state(1), 4);
        inForce(x, "x0,2,1,2;");
        due("both reached", x.barred(), 1);
        inForce(x, "x0,3,1,2;x0,2,1,3;");
        due("one short", x.barred(), 0);
        inForce(x, "x0,1,9,0;x0,1,9,1;");
        due("things that are not there have 0", x.barred(), 1);
        inForce(x, "x0,1,0,2;x0,1,0,3;");
        due("T and U alike", x.barred(), 1);
        inForce(x, "x9,1,0,0;n9,1;");
        due("T not there", x.barred(), 0);
        inForce(x, "n0,2;n1,1;n1,3;n2,1;");
        due("somebody there", x.barred(), 0);
        x.go(0, 1);
        due("one is there still", x.barred(), 0);
        x.go(1, -1);
        due("nobody there", x.barred(), 2);
        x.go(0, 0);
        due("somebody again", x.barred(), 0);
    }

    // ---- 14 to 20: wishes

    private static void allFull() {
        HeededWishes x = speakers();
        x.word(3, 0, 1, 14);
        x.word(0, 1, 1, 15);
        for (int k = 0; k < 10; k++) { x.thing(0, k % 2, k); }
        x.rule(0, 50);
        x.rule(1, 20);
        due("sixteen words", x.hear(0, 100, 2, 0x14), 12);
        due("unlike", x.open(), 3);
        due("ask", x.ask(), 0);
        due("by verb 1", x.answer(0, 1), 3);
        due("lamps", x.answer(1, 4), 2);
        due("five of ten", x.done(), 0x155);
        due("back", x.undo(), 0x155);
    }

    private static void hear() {
        HeededWishes x = speakers();
        due("folk -1", x.hear(-1, 100, 1, 0), BAD);
        due("folk 6", x.hear(6, 100, 1, 0), BAD);
        due("sure -1", x.hear(0, -1, 1, 0), BAD);
        due("sure 101", x.hear(0, 101, 1, 0), BAD);
        due("n 0", x.hear(0, 100, 0, 0), BAD);
        due("n 9", x.hear(0, 100, 9, 0), BAD);
        due("v -1", x.hear(0, 100, 8, -1), BAD);
        due("v 16 of 1", x.hear(0, 100, 1, 16), BAD);
        due("v of 8", x.hear(0, 100, 8, 1L << 32), BAD);
        due("out", x.hear(2, 100, 1, 0), NO);
        due("BAD ahead of NO", x.hear(2, 101, 1, 0), BAD);
        due("nothing heard yet", x.open(), NO);
        due("top v", x.hear(0, 100, 8, (1L << 32) - 1), 0);
        due("heard, with no reading", x.open(), 0);
        due("out leaves it", x.hear(2, 100, 1, 0), NO);
        due("still heard", x.open(), 0);
        HeededWishes y = new HeededWishes();
        y.go(0, 0);
        due("no words", y.hear(0, 0, 1, 0), 0);
    }

    private static void prices() {
        HeededWishes x = new HeededWishes();
        x.go(0, 0);
        x.word(0, 0, 2, 0x12);
        x.word(1, 0, 2, 0x34);
        x.rule(0, 50);
        due("heard", x.hear(0, 100, 4, 0x1234), 1);
        due("as told", x.reading(0, 0), 0);
        x.hear(0, 100, 4, 0x1235);
        due("another one", x.reading(0, 0), 9);
        x.hear(0, 100, 3, 0x134);
        due("one left out", x.reading(0, 0), 6);
        x.hear(0, 100, 5, 0x12534);
        due("one more", x.reading(0, 0), 6);
        x.doubt(4, 5, 2);
        x.doubt(5, 4, 1);
        x.hear(0, 100, 4, 0x1235);
        due("doubt of the one told for the one heard", x.reading(0, 0), 2);
        x.doubt(1, 2, 0);
        x.doubt(2, 3, 0);
        x.doubt(3, 4, 0);
        x.hear(0, 100, 4, 0x2345);
        due("by doubts", x.reading(0, 0), 2);
        x.doubt(4, 5, 9);
        x.hear(0, 100, 4, 0x2345);
        due("one more is not dearer than 9 and less", x.reading(0, 0), 9);
        x.hear(0, 100, 1, 0x7);
        due("three left out, one for another", x.reading(0, 0), 27);
        x.rule(0, 27);
        due("LIMIT reached", x.hear(0, 100, 1, 0x7), 1);
        x.rule(0, 26);
        due("LIMIT passed", x.hear(0, 100, 1, 0x7), 0);
        due("eight", x.hear(0, 100, 8, 0x12341111L), 1);
        due("four more", x.reading(0, 0), 24);
    }

    private static void orderOfReadings() {
        HeededWishes x = new HeededWishes();
        x.go(0, 0);
        x.word(2, 1, 1, 9);
        x.word(1, 1, 1, 5);
        x.word(0, 3, 1, 2);
        x.word(3, 0, 1, 6);
        x.word(0, 1, 1, 1);
        x.word(2, 0, 1, 8);
        x.doubt(2, 1, 0);
        x.doubt(6, 5, 0);
        x.rule(0, 50);
        x.rule(0, 6);
        due("readings", x.hear(0, 100, 2, 0x15), 8);
        int[][] want = {{0, 2, 1, NONE}, {0, 2, 3, NONE}, {0, 4, 1, NONE}, {0, 4, 3, NONE},
            {6, 2, 1, 0}, {6, 2, 1, 5}, {6, 4, 1, 0}, {6, 4, 1, 5}};
        for (int i = 0; i < 8; i++) {
            for (int what = 0; what < 4; what++) { due("reading " + i + " " + what, x.reading(i, what), want[i][what]); }
        }
        HeededWishes z = new HeededWishes();
        z.go(0, 0);
        z.word(1, 1, 1, 5);
        z.word(0, 1, 1, 1);
        due("a SORT may be the first WORD of all", z.hear(0, 100, 2, 0x15), 1);
        due("number 0", z.reading(0, 2), 0);
        HeededWishes y = speakers();
        y.rule(0, 50);
        due("twelve at most", y.hear(0, 100, 2, 0x14), 12);
        due("the least first", y.reading(0, 0), 0);
        due("the dearer behind", y.reading(11, 0), 9);
        due("number of the last VERB", y.reading(11, 1), 2);
        due("no thirteenth", y.reading(12, 0), NONE);
    }

    private static void reading() {
        HeededWishes x = speakers();
        due("nothing heard", x.reading(0, 0), NONE);
        due("BAD ahead of NONE", x.reading(0, 5), BAD);
        x.thing(0, 0, 0);
        x.rule(0, 0);
        due("one", x.hear(0, 100, 2, 0x14), 1);
        due("price", x.reading(0, 0), 0);
        due("verb", x.reading(0, 1), 1);
        due("second", x.reading(0, 2), 4);
        due("third", x.reading(0, 3), NONE);
        due("meant", x.reading(0, 4), 1);
        due("not so many", x.reading(1, 0), NONE);
        due("far off", x.reading(Integer.MAX_VALUE, 0), NONE);
        due("what -1", x.reading(0, -1), BAD);
        due("what 5", x.reading(0, 5), BAD);
        due("i -1", x.reading(-1, 0), BAD);
        x.hear(0, 100, 3, 0x149);
        due("third word", x.reading(0, 3), 9);
        due("void", x.reading(0, 4), 0);
        x.hear(0, 100, 2, 0x14);
        x.done();
        due("over", x.reading(0, 0), NONE);
    }

    private static void meant() {
        HeededWishes x = speakers();
        x.rule(0, 0);
        x.thing(0, 0, 0);
        x.thing(0, 1, 0);
        x.thing(0, 0, 0);
        x.thing(1, 0, 0);
        x.thing(1, 2, 0);
        x.thing(1, 3, 0);
        int[] tops = {3, 1, 2, 1};
        int[] bits = {8, 0, 16, 32};
        for (int sort = 0; sort < 4; sort++) {
            for (int v = 0; v < 4; v++) {
                x.hear(0, 100, 3, v << 8 | 4 + sort << 4 | 9);
                due("sort " + sort + " to " + v, x.reading(0, 4), v <= tops[sort] ? bits[sort] : 0);
            }
        }
        x.hear(0, 100, 2, 0x14);
        due("where the speaker is", x.reading(0, 4), 5);
        x.go(0, 1);
        due("as it was when heard", x.reading(0, 4), 5);
        x.thing(0, 0, 0);
        due("without what came since", x.reading(0, 4), 5);
        x.hear(0, 100, 2, 0x14);
        due("where the speaker is now", x.reading(0, 4), 8);
        due("done where it was heard", x.done(), 8);
    }

    private static void it() {
        HeededWishes x = speakers();
        x.rule(0, 0);
        x.thing(0, 0, 0);
        x.thing(0, 0, 0);
        x.thing(1, 1, 0);
        x.hear(0, 100, 2, 0x1D);
        due("none at first", x.reading(0, 4), 0);
        due("void", x.open(), 0);
        wish(x, 0, 2, 0x24);
        x.hear(1, 100, 2, 0x1D);
        due("what was done last, by anybody", x.reading(0, 4), 3);
        due("done", x.done(), 3);
        due("meant, changed or not", wish(x, 0, 2, 0x1D), 0);
        due("and again", wish(x, 0, 2, 0x3D), 3);
        x.undo();
        x.hear(0, 100, 2, 0x1D);
        due("back or not", x.reading(0, 4), 3);
        wish(x, 0, 3, 0x159);
        x.hear(0, 100, 2, 0x2D);
        due("a lock is never at 2", x.reading(0, 4), 0);
        x.at(1, 0, 0);
        x.ticks(1);
        x.hear(0, 100, 2, 0x0D);
        due("not by one standing", x.reading(0, 4), 4);
    }

    private static void open() {
        HeededWishes x = speakers();
        due("nothing heard", x.open(), NO);
        x.thing(0, 0, 0);
        x.thing(0, 1, 0);
        x.hear(0, 100, 2, 0x14);
        due("one within the margin", x.open(), 1);
        x.rule(1, 9);
        due("MARGIN as it was when heard", x.open(), 1);
        x.hear(0, 100, 2, 0x14);
        // at PRICE 0 lamp to 1, at 6 the same with rooms named, at 9 lamp to 0 and to 2, lock to 1; lamp to 3 is the 13th
        due("unlike ones", x.open(), 4);
        x.rule(1, 8);
        x.hear(0, 100, 2, 0x14);
        due("the same by two rows", x.open(), 1);
        HeededWishes y = speakers();
        y.thing(0, 1, 0);
        y.hear(0, 100, 2, 0x14);
        due("above the least that is not void", y.reading(0, 4), 0);
        due("it is the lock's", y.open(), 1);
        due("the lock", y.done(), 1);
        HeededWishes z = speakers();
        z.thing(0, 0, 0);
        z.rule(1, 6);
        z.thing(1, 0, 0);
        z.rule(0, 8);
        z.hear(0, 100, 2, 0x14);
        due("here or there", z.open(), 2);
        z.hear(0, 100, 3, 0x149);
        due("there, or here", z.open(), 2);
        z.when(0, 1, 0, 1);
        z.at(1, 0, 1);
        z.at(1, 1, 1);
        z.ticks(1);
        due("both are as wished now", z.open(), 1);
        due("the first is taken", z.done(), 0);
        z.rule(0, 0);
        z.hear(0, 100, 2, 0x1D);
        due("it was the one there", z.reading(0, 4), 2);
    }

    private static void ask() {
        HeededWishes x = speakers();
        due("nothing heard", x.ask(), NO);
        x.hear(0, 100, 2, 0x14);
        due("none is open", x.ask(), NONE);
        x.thing(0, 0, 0);
        x.thing(0, 1, 0);
        x.hear(0, 100, 2, 0x14);
        due("taken", x.ask(), NONE);
        // open at 9: verbs 0, 1, 2, 3 with lamp, verb 1 with lock; verb 1 lamp and room 0 at 6
        x.rule(1, 9);
        x.hear(0, 100, 2, 0x14);
        due("by verb three at most", x.ask(), 0);
        x.answer(0, 1);
        due("lamp or lock", x.open(), 2);
        due("two are asked for, too", x.ask(), 1);
        HeededWishes y = new HeededWishes();
        y.go(0, 0);
        y.thing(0, 0, 0);
        y.thing(0, 1, 0);
        y.thing(1, 0, 0);
        y.word(0, 1, 1, 1);
        y.word(1, 0, 1, 4);
        y.word(1, 1, 1, 5);
        y.word(2, 1, 1, 9);
        y.rule(1, 8);
        y.doubt(4, 5, 1);
        y.hear(0, 100, 2, 0x15);
        due("three open", y.open(), 3);
        due("second and third alike: the lower part", y.ask(), 1);
        y.thing(1, 1, 0);
        y.hear(0, 100, 2, 0x15);
        due("two and two", y.ask(), 1);
        y.word(2, 2, 1, 10);
        y.thing(2, 1, 0);
        y.hear(0, 100, 2, 0x15);
        due("none, 1 and 2", y.ask(), 2);
    }

    private static void answer() {
        HeededWishes x = speakers();
        due("nothing heard", x.answer(0, 0), NO);
        due("part -1", x.answer(-1, 0), BAD);
        due("part 3", x.answer(3, 0), BAD);
        due("no such word", x.answer(0, 14), BAD);
        due("-1 of the first part", x.answer(0, -1), BAD);
        due("-1 of the second part", x.answer(1, -1), BAD);
        due("-2", x.answer(2, -2), BAD);
        x.thing(0, 0, 0);
        x.thing(1, 0, 0);
        x.thing(2, 0, 0);
        x.rule(1, 6);
        x.rule(0, 8);
        x.hear(0, 100, 2, 0x14);
        due("unlike", x.open(), 3);
        due("none has it", x.answer(0, 2), NO);
        due("of another kind", x.answer(0, 5), NO);
        due("all have it", x.answer(0, 1), 4);
        due("still", x.open(), 3);
        due("there", x.answer(2, 9), 1);
        due("readings are as they were", x.reading(0, 4), 1);
        due("the others are not open", x.answer(2, -1), NO);
        due("taken", x.open(), 1);
        due("done there", x.done(), 2);
        x.hear(0, 100, 2, 0x14);
        due("none of the third part", x.answer(2, -1), 1);
        due("done here", x.done(), 1);
        due("over", x.answer(2, -1), NO);
    }

    private static void done() {
        HeededWishes x = speakers();
        x.thing(0, 0, 0);
        x.thing(0, 0, 0);
        due("nothing heard", x.done(), NO);
        x.hear(0, 100, 8, 0xFFFFFFFFL);
        due("none open", x.done(), NO);
        x.rule(1, 9);
        x.hear(0, 100, 2, 0x14);
        due("nothing taken", x.done(), NO);
        x.rule(1, 3);
        x.hear(0, 59, 2, 0x14);
        due("unsure: a guest", x.done(), NO);
        x.rule(2, 50);
        due("SURE as it was then", x.done(), NO);
        x.hear(0, 50, 2, 0x14);
        x.rule(2, 60);
        due("sure then", x.done(), 3);
        inForce(x, "r6,4,5,0,23;");
        x.hear(0, 100, 2, 0x24);
        due("rights as they are now", x.done(), NO);
        x.hear(0, 59, 2, 0x24);
        due("a guest may", x.done(), 3);
        x.thing(1, 1, 0);
        x.go(0, 1);
        inForce(x, "r0,1,1,5,5;");
        x.hear(0, 100, 2, 0x15);
        due("hour 0", x.done(), NO);
        x.ticks(5);
        due("hour 5", x.done(), 4);
        x.hear(0, 100, 2, 0x05);
        x.ticks(24);
        due("hour 5 of the next day", x.done(), 4);
        x.thing(2, 0, 0);
        x.thing(2, 0, 0);
        inForce(x, "r0,0,5,0,23;");
        x.hear(0, 100, 3, 0x14A);
        due("both", x.done(), 24);
        due("over", x.open(), NO);
    }

    private static void doneFull() {
        HeededWishes x = speakers();
        x.thing(0, 0, 0);
        x.rule(0, 0);
        for (int k = 0; k < 200; k++) { due("wish " + k, wish(x, 0, 2, k % 2 == 0 ? 0x14 : 0x04), 1); }
        due("done", x.count(6), 200);
        due("full", wish(x, 0, 2, 0x14), FULL);
        due("still heard", x.open(), 1);
        inForce(x, "r0,4,5,0,23;x0,1,0,1;");
        due("FULL ahead of HARM", x.done(), FULL);
        inForce(x, "");
        due("NO ahead of FULL", x.done(), NO);
        due("why", x.why(0), 1199);
        due("back", x.undo(), 1);
        due("full for good", wish(x, 0, 2, 0x04), NO);
    }

    private static void doneHarm() {
        HeededWishes x = speakers();
        x.thing(0, 0, 0);
        x.thing(0, 0, 0);
        inForce(x, ALL_MAY + "x0,2,1,2;");
        due("not yet", wish(x, 0, 2, 0x14), 3);
        due("both at once", wish(x, 0, 2, 0x24), HARM);
        due("nothing changed", x.state(0), 1);
        due("still heard", x.open(), 1);
        inForce(x, ALL_MAY);
        due("without the item", x.done(), 3);
        inForce(x, ALL_MAY + "x0,2,1,2;");
        due("barred already", wish(x, 0, 2, 0x34), 3);
        inForce(x, ALL_MAY + "x0,2,1,2;x1,1,0,1;n0,1;");
        due("down is no harm", wish(x, 0, 2, 0x14), 3);
        x.hear(0, 100, 2, 0x04);
        x.go(0, -1);
        x.go(1, -1);
        due("from afar", x.done(), 3);
        x.go(0, 1);
        due("nobody there", wish(x, 0, 3, 0x148), HARM);
        inForce(x, "n0,1;");
        due("NO ahead of HARM", x.done(), NO);
    }

    private static void doneFires() {
        HeededWishes x = speakers();
        for (int k = 0; k < 4; k++) { x.thing(k / 2, 0, 0); }
        x.when(1, 1, 2, 3);
        x.when(0, 1, 2, 1);
        x.when(2, 3, 3, 2);
        due("changed by the wish itself", wish(x, 0, 2, 0x14), 3);
        // thing 0 wakes number 1 first, then thing 1 number 0
        due("the last of the row", x.state(2), 3);
        due("what it woke", x.state(3), 2);
        due("number 1 came first", x.why(2), 2000);
        wish(x, 0, 3, 0x049);
        due("no change, nothing fires", wish(x, 0, 2, 0x14), 0);
        due("as it was", x.state(2), 0);
        HeededWishes y = speakers();
        for (int k = 0; k < 10; k++) { y.thing(0, 0, 0); }
        y.when(0, 1, 0, 2);
        y.when(0, 2, 0, 1);
        due("ten", wish(y, 0, 2, 0x14), 1023);
        due("and twenty more", y.state(0), 1);
        due("not held", y.count(5), 0);
        wish(y, 0, 2, 0x34);
        due("nine and eleven", wish(y, 0, 2, 0x24), 1023);
        due("twenty", y.state(0), 2);
    }

    private static void undo() {
        HeededWishes x = speakers();
        due("none", x.undo(), NO);
        x.thing(0, 0, 0);
        x.thing(0, 0, 0);
        x.when(0, 2, 1, 3);
        x.when(0, 0, 1, 1);
        wish(x, 0, 2, 0x14);
        wish(x, 0, 2, 0x24);
        due("one standing changed 1 since", x.state(1), 3);
        due("what nothing changed since", x.undo(), 1);
        due("as it was", x.state(0), 1);
        due("not the other", x.state(1), 3);
        due("why", x.why(0), 3001);
        due("the one ahead was changed since", x.undo(), 0);
        due("none left", x.undo(), NO);
        wish(x, 0, 2, 0x34);
        due("only what changed by it", x.undo(), 1);
        due("its number", x.why(0), 3002);
        wish(x, 0, 2, 0x14);
        due("one is not changed", x.undo(), 2);
        due("thing 1", x.state(1), 3);
        HeededWishes y = speakers();
        y.thing(0, 0, 0);
        wish(y, 0, 2, 0x14);
        wish(y, 0, 2, 0x04);
        inForce(y, "n0,1;");
        y.when(0, 1, 0, 2);
        y.go(0, -1);
        y.go(1, -1);
        due("barred or not", y.undo(), 1);
        due("no standing wish fires", y.state(0), 1);
        due("barred", y.barred(), 1);
        due("a wish taken back changed it", y.undo(), 0);
        due("state", y.state(0), 1);
    }

    // ---- 21 to 26: standing

    private static void when() {
        HeededWishes x = new HeededWishes();
        for (int s = 0; s < 4; s++) { x.thing(0, s, 0); }
        int[] tops = {3, 1, 2, 1};
        for (int s = 0; s < 4; s++) {
            due("v above", x.when(s, tops[s] + 1, 0, 0), BAD);
            due("w above", x.when(0, 0, s, tops[s] + 1), BAD);
        }
        due("t -1", x.when(-1, 0, 0, 0), BAD);
        due("t 4", x.when(4, 0, 0, 0), BAD);
        due("u -1", x.when(0, 0, -1, 0), BAD);
        due("u 4", x.when(0, 0, 4, 0), BAD);
        due("v -1", x.when(0, -1, 0, 0), BAD);
        due("w -1", x.when(0, 0, 0, -1), BAD);
        for (int k = 0; k < 8; k++) { due("its number", x.when(k % 4, tops[k % 4], k % 4, 0), k); }
        due("the ninth", x.when(0, 0, 0, 0), FULL);
        due("BAD ahead of FULL", x.when(4, 0, 0, 0), BAD);
        due("count", x.count(4), 8);
    }

    private static void at() {
        HeededWishes x = new HeededWishes();
        x.thing(0, 1, 0);
        due("hour -1", x.at(-1, 0, 0), BAD);
        due("hour 24", x.at(24, 0, 0), BAD);
        due("u 1", x.at(0, 1, 0), BAD);
        due("w 2", x.at(0, 0, 2), BAD);
        due("w -1", x.at(0, 0, -1), BAD);
        due("0", x.at(0, 0, 1), 0);
        for (int k = 1; k < 8; k++) { due("its number", x.at(23, 0, k % 2), k); }
        due("the ninth", x.at(0, 0, 0), FULL);
        due("BAD ahead of FULL", x.at(24, 0, 0), BAD);
        due("not at once", x.state(0), 0);
        x.ticks(24);
        due("at hour 0 of the next day", x.state(0), 1);
    }

    private static void ticks() {
        HeededWishes x = new HeededWishes();
        due("0", x.ticks(0), BAD);
        due("-1", x.ticks(-1), BAD);
        due("101", x.ticks(101), BAD);
        due("1", x.ticks(1), 1);
        due("100", x.ticks(100), 101);
        x.thing(0, 0, 0);
        x.at(5, 0, 2);
        due("to hour 4 of the day", x.ticks(23), 124);
        due("not yet", x.state(0), 0);
        due("to 5", x.ticks(1), 125);
        due("now", x.state(0), 2);
    }

    private static void row() {
        HeededWishes x = new HeededWishes();
        for (int k = 0; k < 4; k++) { x.thing(0, 0, 0); }
        x.at(1, 0, 1);
        x.when(0, 1, 3, 1);
        x.at(1, 1, 1);
        x.when(1, 1, 3, 2);
        x.at(1, 3, 3);
        x.when(3, 1, 2, 1);
        x.when(3, 2, 2, 2);
        x.ticks(1);
        due("those of the hour go ahead of those woken", x.state(3), 2);
        due("by the second", x.why(3), 2003);
        due("woken in the row's order", x.state(2), 2);
        due("by the last", x.why(2), 2006);
        HeededWishes y = new HeededWishes();
        y.thing(0, 0, 0);
        y.thing(0, 0, 0);
        y.when(0, 1, 0, 2);
        y.when(0, 2, 0, 3);
        y.when(0, 3, 0, 1);
        y.at(1, 1, 1);
        y.at(1, 0, 1);
        y.ticks(1);
        due("thirty in all", y.state(0), 2);
        due("two and 28", y.why(0), 2000);
        HeededWishes z = new HeededWishes();
        z.thing(0, 0, 0);
        z.at(1, 0, 0);
        z.when(0, 0, 0, 1);
        z.ticks(1);
        due("as it is: no change", z.state(0), 0);
        due("none at first", z.why(0), NONE);
    }

    private static void held() {
        HeededWishes x = new HeededWishes();
        for (int k = 0; k < 3; k++) { x.thing(0, 0, 0); }
        inForce(x, "x0,1,1,1;");
        x.at(1, 0, 1);
        x.at(1, 1, 1);
        x.when(1, 1, 2, 1);
        x.at(2, 0, 0);
        x.at(3, 1, 1);
        x.ticks(1);
        due("held", x.count(5), 1);
        due("not done", x.state(1), 0);
        due("nothing woken", x.state(2), 0);
        x.ticks(1);
        due("down is not held", x.state(0), 0);
        x.ticks(1);
        due("free now", x.state(1), 1);
        due("and it wakes", x.state(2), 1);
        due("as many", x.count(5), 1);
        inForce(x, "n0,1;n1,1;");
        x.ticks(22);
        due("barred by another item", x.state(0), 0);
        due("held again", x.count(5), 2);
        inForce(x, "");
        x.ticks(24);
        due("no items", x.state(0), 1);
        HeededWishes y = new HeededWishes();
        y.thing(0, 0, 0);
        y.at(1, 0, 1);
        y.at(2, 0, 3);
        y.at(3, 0, 2);
        y.ticks(1);
        inForce(y, "n0,1;n0,3;");
        y.ticks(1);
        due("the other item holds it", y.count(5), 1);
        y.ticks(1);
        due("what is barred already may go on", y.state(0), 2);
        due("not held", y.count(5), 1);
    }

    private static void quarrel() {
        HeededWishes x = new HeededWishes();
        for (int k = 0; k < 3; k++) { x.thing(0, 0, 0); }
        due("none", x.quarrel(), NONE);
        x.at(1, 0, 1);
        x.when(1, 1, 0, 2);
        x.at(2, 0, 2);
        x.at(1, 1, 2);
        x.at(1, 0, 1);
        x.when(1, 2, 0, 1);
        due("none yet", x.quarrel(), NONE);
        x.when(1, 2, 0, 3);
        due("by a change", x.quarrel(), 56);
        x.at(1, 0, 0);
        due("by the first", x.quarrel(), 7);
    }

    private static void wake() {
        HeededWishes x = new HeededWishes();
        for (int k = 0; k < 4; k++) { x.thing(0, 0, 0); }
        due("none", x.wake(), NONE);
        x.at(1, 0, 1);
        x.when(0, 1, 1, 1);
        x.when(2, 1, 0, 1);
        due("a chain", x.wake(), NONE);
        x.when(1, 1, 3, 1);
        due("a longer one", x.wake(), NONE);
        x.when(3, 2, 1, 1);
        due("another state", x.wake(), NONE);
        x.when(3, 1, 1, 1);
        due("by way of others", x.wake(), 3);
        x.when(1, 1, 0, 1);
        due("the lowest", x.wake(), 1);
        HeededWishes y = new HeededWishes();
        y.thing(0, 0, 0);
        y.when(0, 1, 0, 2);
        y.when(0, 3, 0, 3);
        due("at once", y.wake(), 1);
        HeededWishes z = new HeededWishes();
        for (int k = 0; k < 8; k++) { z.thing(0, 0, 0); }
        for (int k = 7; k > 0; k--) { z.when(k, 1, (k + 1) % 8, 1); }
        due("not round yet", z.wake(), NONE);
        z.when(0, 1, 1, 1);
        due("round by eight", z.wake(), 0);
    }

    private static void show() {
        HeededWishes x = new HeededWishes();
        for (int k = 0; k < 5; k++) { x.thing(k, 0, 0); }
        due("none", x.show(), NONE);
        x.at(5, 0, 1);
        due("nothing barred", x.show(), NONE);
        inForce(x, "x0,1,1,1;");
        due("the other does not come", x.show(), NONE);
        x.at(9, 1, 2);
        due("two", x.show(), 2);
        x.when(0, 1, 2, 1);
        x.when(2, 1, 1, 1);
        due("one, with what it wakes", x.show(), 1);
        due("states are as they were", x.state(0), 0);
        due("nothing held", x.count(5), 0);
        inForce(x, "x0,1,1,1;x0,1,1,2;");
        x.ticks(6);
        due("held", x.count(5), 1);
        due("from the states as they are", x.show(), 1);
        inForce(x, "n3,1;");
        due("nobody is there, nothing comes there", x.show(), NONE);
        x.at(7, 3, 1);
        due("now", x.show(), 1);
        x.go(0, 3);
        due("somebody is there", x.show(), NONE);
        HeededWishes y = new HeededWishes();
        y.thing(0, 0, 0);
        y.thing(0, 0, 0);
        y.at(1, 0, 1);
        y.at(2, 0, 0);
        y.ticks(1);
        inForce(y, "n0,1;");
        due("barred now", y.barred(), 1);
        due("barred already does not count", y.show(), NONE);
        y.at(3, 1, 1);
        inForce(y, "n0,1;n1,1;");
        due("another does", y.show(), 1);
    }

    private static void showOrder() {
        HeededWishes x = new HeededWishes();
        for (int k = 0; k < 3; k++) { x.thing(0, 0, 0); }
        x.at(1, 0, 1);
        x.at(2, 0, 2);
        x.at(3, 0, 3);
        x.when(0, 1, 1, 1);
        x.when(0, 2, 1, 0);
        x.when(0, 3, 2, 1);
        inForce(x, "x2,1,1,1;");
        due("first 1, then 3", x.show(), 2);
        inForce(x, "x0,2,1,1;x1,1,2,1;");
        due("at some change on the way", x.show(), 2);
        HeededWishes y = new HeededWishes();
        y.thing(0, 0, 0);
        y.thing(0, 0, 0);
        y.at(1, 0, 1);
        y.at(2, 0, 0);
        y.when(0, 1, 1, 1);
        y.when(0, 0, 1, 2);
        y.when(1, 2, 1, 0);
        inForce(y, "x1,2,1,2;");
        due("on the way, gone at the end", y.show(), 2);
        HeededWishes z = new HeededWishes();
        for (int k = 0; k < 8; k++) { z.thing(0, 1, 0); }
        for (int k = 0; k < 8; k++) { z.at(k, k, 1); }
        inForce(z, "x0,1,8,1;");
        due("never", z.show(), NONE);
        HeededWishes w = new HeededWishes();
        w.thing(0, 0, 0);
        w.thing(0, 0, 0);
        w.thing(0, 0, 0);
        w.at(1, 0, 1);
        w.at(2, 0, 2);
        w.when(0, 1, 1, 1);
        w.when(0, 2, 2, 1);
        w.when(2, 1, 1, 0);
        inForce(w, "x0,1,1,2;");
        due("each but once", w.show(), NONE);
        inForce(w, "x2,1,1,1;");
        due("both orders", w.show(), 2);
    }

    private static void showThirty() {
        HeededWishes x = new HeededWishes();
        for (int k = 0; k < 3; k++) { x.thing(0, 0, 0); }
        x.at(1, 0, 1);
        x.at(2, 1, 1);
        x.when(1, 1, 2, 1);
        x.when(0, 1, 2, 0);
        x.when(0, 1, 0, 2);
        x.when(0, 2, 0, 1);
        inForce(x, "x2,1,0,2;");
        // the first ends at 2 with its thirtieth change; behind the second one it sets thing 2 to 0 in time
        due("thirty changes by one firing", x.show(), 2);
    }

    private static void eightStanding() {
        HeededWishes x = new HeededWishes();
        for (int k = 0; k < 10; k++) { x.thing(0, 0, 0); }
        inForce(x, "x9,3,8,3;");
        for (int k = 0; k < 8; k++) { x.when(k, 1, k + 1, 1); }
        due("quarrel", x.quarrel(), NONE);
        due("wake", x.wake(), NONE);
        due("show", x.show(), NONE);
        HeededWishes y = new HeededWishes();
        y.thing(0, 0, 0);
        y.thing(0, 0, 0);
        inForce(y, "x1,2,0,3;");
        for (int k = 0; k < 8; k++) { y.at(k, k / 4, k % 4); }
        due("8 at an hour", y.show(), 2);
        inForce(y, "x1,2,9,3;");
        due("never", y.show(), NONE);
        due("never, again", y.show(), NONE);
    }

    // ---- 27 to 32: habits, costs

    private static void habits() {
        HeededWishes x = speakers();
        x.thing(0, 0, 0);
        x.thing(0, 0, 0);
        due("none", x.habits(1, 1, -1), 0);
        due("no first", x.habits(1, 1, 0), NONE);
        due("d 0", x.habits(0, 1, -1), BAD);
        due("d 15", x.habits(15, 1, -1), BAD);
        due("m 0", x.habits(3, 0, -1), BAD);
        due("m above d", x.habits(3, 4, -1), BAD);
        due("i -2", x.habits(3, 1, -2), BAD);
        wish(x, 0, 2, 0x14);
        wish(x, 0, 2, 0x14);
        due("meant, changed or not; a day counts once", x.habits(14, 2, -1), 0);
        due("two things", x.habits(1, 1, -1), 2);
        due("the first", x.habits(1, 1, 0), 1);
        due("the second", x.habits(1, 1, 1), 11);
        due("no third", x.habits(1, 1, 2), NONE);
        x.ticks(47);
        wish(x, 1, 2, 0x24);
        x.ticks(1);
        wish(x, 1, 2, 0x14);
        due("whoever it was, on two days of three", x.habits(3, 2, -1), 2);
        due("not of two", x.habits(2, 2, -1), 0);
        due("rising", x.habits(3, 1, 3), 2312);
        due("all", x.habits(3, 1, -1), 4);
        x.ticks(100);
        x.ticks(100);
        x.ticks(64);
        due("day 13", x.count(8) / 24, 13);
        due("fourteen days", x.habits(14, 2, -1), 2);
        due("thirteen days", x.habits(13, 2, -1), 0);
        x.ticks(24);
        due("a day later", x.habits(14, 2, -1), 0);
        due("one is left", x.habits(14, 1, -1), 4);
    }

    private static void daysOfHabits() {
        HeededWishes x = speakers();
        x.thing(0, 0, 0);
        wish(x, 0, 2, 0x04);
        due("hour, thing and state 0", x.habits(1, 1, 0), 0);
        due("one", x.habits(1, 1, -1), 1);
        x.ticks(23);
        due("the last hour of the day", x.habits(1, 1, -1), 1);
        wish(x, 0, 2, 0x14);
        x.ticks(1);
        due("a new day", x.habits(1, 1, -1), 0);
        due("the day ahead", x.habits(2, 1, 1), 2301);
        HeededWishes y = speakers();
        y.thing(0, 0, 0);
        y.thing(0, 0, 0);
        y.when(0, 1, 0, 2);
        wish(y, 0, 2, 0x14);
        due("the state wished", y.habits(1, 1, 0), 1);
        due("each thing meant", y.habits(1, 1, 1), 11);
        due("is told by itself", y.count(7), 2);
    }

    private static void logFull() {
        HeededWishes x = speakers();
        x.thing(0, 0, 0);
        x.rule(0, 0);
        wish(x, 1, 2, 0x14);
        for (int k = 0; k < 59; k++) { wish(x, 0, 2, 0x24); }
        due("sixty", x.count(7), 60);
        due("both", x.habits(1, 1, -1), 2);
        wish(x, 0, 2, 0x34);
        due("sixty at most", x.count(7), 60);
        due("the oldest went", x.habits(1, 1, 0), 2);
        due("the newest is there", x.habits(1, 1, 1), 3);
        due("nothing of folk 1", x.forget(1), 0);
        due("all of folk 0", x.forget(0), 60);
    }

    private static void keepHabit() {
        HeededWishes x = new HeededWishes();
        x.thing(0, 0, 0);
        x.thing(0, 1, 0);
        due("-1", x.keepHabit(-1), BAD);
        due("lowest", x.keepHabit(Integer.MIN_VALUE), BAD);
        due("hour 24", x.keepHabit(2400), BAD);
        due("thing 2", x.keepHabit(20), BAD);
        due("state 4", x.keepHabit(4), BAD);
        due("a lock's 2", x.keepHabit(12), BAD);
        due("greatest", x.keepHabit(Integer.MAX_VALUE), BAD);
        due("hour 0", x.keepHabit(3), 0);
        due("hour 23", x.keepHabit(2311), 1);
        x.ticks(23);
        due("done at 23", x.state(1), 1);
        due("not yet", x.state(0), 0);
        x.ticks(1);
        due("done at 0", x.state(0), 3);
        due("why", x.why(1), 2001);
        for (int k = 2; k < 8; k++) { due("its number", x.keepHabit(0), k); }
        due("full", x.keepHabit(0), FULL);
        due("BAD ahead of FULL", x.keepHabit(4), BAD);
    }

    private static void forget() {
        HeededWishes x = speakers();
        x.thing(0, 0, 0);
        due("-1", x.forget(-1), BAD);
        due("6", x.forget(6), BAD);
        due("none", x.forget(5), 0);
        wish(x, 0, 2, 0x14);
        wish(x, 1, 2, 0x24);
        wish(x, 0, 2, 0x34);
        due("its own", x.forget(0), 2);
        due("left", x.count(7), 1);
        due("the other's", x.habits(1, 1, 0), 2);
        due("again", x.forget(0), 0);
        inForce(x, "r6,4,5,0,23;");
        x.hear(0, 0, 2, 0x14);
        x.done();
        due("with rights of a guest, too", x.forget(0), 1);
        due("the other", x.forget(1), 1);
        due("so far", x.count(9), 4);
        due("wishes are done", x.count(6), 4);
        due("and go back", x.undo(), 1);
    }

    private static void cost() {
        HeededWishes x = speakers();
        due("all of none", x.cost(-1), 0);
        due("not there", x.cost(0), BAD);
        x.thing(0, 0, 7);
        x.thing(1, 2, 100);
        due("-2", x.cost(-2), BAD);
        due("2", x.cost(2), BAD);
        wish(x, 0, 2, 0x34);
        due("not yet", x.cost(0), 0);
        x.at(2, 1, 2);
        x.at(3, 0, 0);
        x.ticks(1);
        due("an hour", x.cost(0), 21);
        x.ticks(3);
        due("three hours, ahead of the change", x.cost(0), 63);
        due("behind the change", x.cost(1), 400);
        due("all", x.cost(-1), 463);
    }

    private static void why() {
        HeededWishes x = speakers();
        due("not there", x.why(0), BAD);
        x.thing(0, 0, 0);
        x.thing(1, 0, 0);
        due("-1", x.why(-1), BAD);
        due("none at first", x.why(0), NONE);
        x.when(0, 2, 1, 1);
        wish(x, 0, 2, 0x14);
        due("a wish", x.why(0), 1000);
        wish(x, 0, 2, 0x14);
        due("one that changed nothing is not why", x.why(0), 1000);
        wish(x, 0, 2, 0x24);
        due("the third", x.why(0), 1002);
        due("one standing", x.why(1), 2000);
        x.undo();
        due("back", x.why(0), 3002);
        due("still", x.why(1), 2000);
    }

    private static void count() {
        HeededWishes x = speakers();
        x.thing(0, 0, 0);
        x.thing(0, 0, 0);
        x.at(1, 0, 1);
        inForce(x, ALL_MAY + "n0,1;");
        wish(x, 0, 2, 0x24);
        wish(x, 1, 2, 0x04);
        x.go(0, -1);
        x.go(1, -1);
        x.ticks(1);
        x.wipe();
        text(x, "abc");
        due("-1", x.count(-1), BAD);
        due("10", x.count(10), BAD);
        due("THINGS", x.count(0), 2);
        due("WORDS", x.count(1), 14);
        due("THE TEXT", x.count(2), 3);
        due("IN FORCE", x.count(3), 3);
        due("STANDING", x.count(4), 1);
        due("HELD", x.count(5), 1);
        due("DONE", x.count(6), 2);
        due("HOUR", x.count(8), 1);
        int log = x.count(7);
        int gone = x.forget(1);
        due("LOG", x.count(7), log - gone);
        due("FORGOTTEN", x.count(9), gone);
    }
}
