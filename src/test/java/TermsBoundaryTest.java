/** Each sentence ahead of the promises, in the document's order: at its boundaries and on either side of them. */
public final class TermsBoundaryTest {
    private static final int BAD = Bench.BAD, NO = Bench.NO, FULL = Bench.FULL, NONE = Bench.NONE, HARM = Bench.HARM;
    private static final int NOT_GONE = Bench.NOT_GONE;
    private static final int[] TOPS = {3, 1, 2, 1};
    private static final String ALL_MAY = "r0,4,5,0,23;r1,4,5,0,23;";
    private static final Bench bench = new Bench();

    public static void main(String[] args) {
        house();
        sounds();
        rules();
        heard();
        open();
        done();
        standing();
        foreseen();
        log();
        refusals();
        bench.mustBeQuoted(0, "THINGS 0 to 9");
        bench.end();
    }

    // ---- 1: the house

    private static void house() {
        rooms();
        calls();
        things();
        statesBySort();
        folk();
        hours();
        days();
    }

    private static void rooms() {
        bench.terms("2, 3, 6, 12", "ROOMS 0 to 4.");
        Bench.Run x = bench.speakers();
        x.refused(BAD, "thing -1 0 0", "thing 5 0 0").due("thing 0 0 0", 0).due("thing 4 0 0", 1);
        x.due("go 2 0", -1).due("go 2 4", 0).refused("go 2 5", NOT_GONE).due("go 2 4", 4);
        x.refused(BAD, "word 2 -1 1 1", "word 2 5 1 1");
        x.hear(0, "148", 1).due("reading 0 4", 1).hear(0, "14C", 1).due("reading 0 4", 2);
        x.rules("r0,4,0,0,23;r1,4,4,0,23;").due(1, "may 0 0 0", "may 1 1 0").due(0, "may 0 1 0", "may 1 0 0");
    }

    private static void calls() {
        bench.terms("1 to 32", "An object is used for at most 512 calls after it has been made; "
            + "what later calls answer is free.");
        Bench.Run x = bench.run().does("thing 0 0 100; at 1 0 3");
        for (int k = 1; k <= 508; k++) x.due("ticks 100", 100 * k);
        x.due("cost 0", 300 * 50799).due("count 8", 50800);
    }

    private static void things() {
        bench.terms("2", "THINGS 0 to 9 as they come: a ROOM, a SORT (0 lamp, 1 lock, 2 oven, 3 blind), a COST (0 to 100)");
        Bench.Run x = bench.run();
        x.refused("state 0", BAD);
        for (int k = 0; k < 10; k++) x.due("thing " + k % 5 + " " + k % 4 + " " + k * 11, k).due("state " + k, 0);
        x.refused("thing 0 0 0", FULL).refused(BAD, "state -1", "state 10").due("count 0", 10);
        Bench.Run y = bench.run().refused(BAD, "thing 0 -1 0", "thing 0 4 0", "thing 0 0 -1", "thing 0 0 101");
        y.does("thing 0 0 0; thing 0 0 1; thing 0 3 100; at 1 0 1; at 1 1 1; at 1 2 1; ticks 2");
        y.due("cost 0", 0).due("cost 1", 1).due("cost 2", 100);
    }

    private static void statesBySort() {
        bench.terms("4, 21, 22, 28", "; STATE 0 to 3, 1, 2, 1 by SORT (0 at first).");
        for (int sort = 0; sort < 4; sort++) {
            int top = TOPS[sort];
            Bench.Run x = bench.speakers().does("thing 0 " + sort + " 0").due("state 0", 0);
            x.refused(BAD, "at 0 0 -1", "at 0 0 " + (top + 1), "when 0 -1 0 0", "when 0 " + (top + 1) + " 0 0");
            x.refused(BAD, "when 0 0 0 -1", "when 0 0 0 " + (top + 1), "keepHabit " + (top + 1));
            x.does("at 1 0 " + top + "; at 2 0 0; when 0 " + top + " 0 " + top + "; keepHabit " + (300 + top));
            x.due("ticks 1", 1).due("state 0", top).due("ticks 1", 2).due("state 0", 0);
            x.due("ticks 1", 3).due("state 0", top);
            for (int v = 0; v <= 3; v++) x.hear(0, v + "" + (4 + sort), 1).due("reading 0 4", v <= top ? 1 : 0);
        }
    }

    private static void folk() {
        bench.terms("3, 14, 29", "FOLK 0 to 5 are in a ROOM or out (at first).");
        Bench.Run x = bench.run();
        for (int f = 0; f < 6; f++) x.refused("hear " + f + " 100 1 0", NO).due("go " + f + " " + f % 5, -1);
        for (int f = 0; f < 6; f++) x.due("hear " + f + " 100 1 0", 0).due("go " + f + " -1", f % 5);
        x.refused(NOT_GONE, "go -1 0", "go 6 0").refused(BAD, "hear -1 100 1 0", "hear 6 100 1 0");
        x.refused(BAD, "forget -1", "forget 6").due(0, "forget 0", "forget 5");
    }

    private static void hours() {
        bench.terms("22, 23, 32", "HOUR 0 at first: 0, 1, .. of the house; of the day: modulo 24;");
        Bench.Run x = bench.run().due("count 8", 0)
            .does("thing 0 0 0; thing 0 0 0; at 0 0 1; at 23 1 1; at 1 0 0; at 0 1 0");
        x.due("ticks 22", 22).due(0, "state 0", "state 1").due("ticks 1", 23).due("state 0", 0).due("state 1", 1);
        x.due("ticks 1", 24).due("state 0", 1).due("state 1", 0).due("count 8", 24);
        x.due("ticks 1", 25).due("state 0", 0).due("ticks 21", 46).due("state 1", 0);
        x.due("ticks 1", 47).due("state 1", 1).due("state 0", 0).due("ticks 1", 48).due("state 0", 1);
        Bench.Run y = bench.speakers().does("thing 0 0 0").rules("r0,4,5,0,0;r1,4,5,23,23;");
        y.wish(0, "14", 1).wish(1, "04", NO).does("ticks 23").wish(0, "04", NO).wish(1, "04", 1);
        y.does("ticks 1").wish(0, "14", 1).wish(1, "04", NO);
    }

    private static void days() {
        bench.terms("27", "DAY: by 24, cut.");
        Bench.Run x = bench.speakers().does("thing 0 0 0").wish(0, "14", 1).due("habits 1 1 -1", 1);
        x.does("ticks 23").wish(0, "24", 1).due("habits 1 1 -1", 2).due("habits 2 2 -1", 0);
        x.does("ticks 1").due("habits 1 1 -1", 0).wish(0, "34", 1).due("habits 1 1 -1", 1).due("habits 2 1 -1", 3);
        x.does("ticks 23").wish(0, "24", 1).due("habits 2 2 -1", 1).due("habits 2 2 0", 2302);
        x.does("ticks 1").due("habits 1 1 -1", 0).due("habits 2 1 -1", 2).due("habits 3 1 -1", 3);
    }

    // ---- 1: sounds and words

    private static void sounds() {
        sixteenSounds();
        doubts();
        words();
        soundsOfWords();
        rows();
        prices();
    }

    private static void sixteenSounds() {
        bench.terms("5, 6, 14", "SOUNDS are 0 to 15.");
        Bench.Run x = bench.run().does("go 0 0; word 0 0 1 0; word 1 0 1 15");
        x.refused(BAD, "doubt -1 1 0", "doubt 16 1 0", "doubt 1 -1 0", "doubt 1 16 0").due("doubt 0 15 1", 9);
        x.due("doubt 15 0 2", 9).due("doubt 0 15 1", 1).due("doubt 15 0 2", 2);
        x.refused(BAD, "word 0 0 1 -1", "word 0 0 1 16", "hear 0 100 1 -1", "hear 0 100 1 16");
        x.hear(0, "0F", 1).due("reading 0 0", 0).hear(0, "F0", 1).due("reading 0 0", 3);
    }

    private static void doubts() {
        bench.terms("5", "DOUBT of a SOUND for another one: 0 to 9 (9 at first; of itself 0).");
        Bench.Run x = bench.run();
        for (int told = 0; told < 16; told++) {
            for (int heard = 0; heard < 16; heard++) {
                if (told != heard) x.due("doubt " + told + " " + heard + " " + (told * 3 + heard) % 10, 9);
            }
        }
        for (int told = 0; told < 16; told++) {
            for (int heard = 0; heard < 16; heard++) {
                if (told != heard) x.due("doubt " + told + " " + heard + " 9", (told * 3 + heard) % 10);
            }
        }
        Bench.Run y = bench.run().refused(BAD, "doubt 1 2 -1", "doubt 1 2 10").due("doubt 1 2 0", 9).due("doubt 1 2 9", 0);
        y.refused(BAD, "doubt 0 0 0", "doubt 15 15 9").due("doubt 1 2 9", 9);
        Bench.Run z = bench.run().does("go 0 0; word 0 0 4 0x0123; word 0 1 4 0xCDEF; word 1 0 4 0x4567; word 3 0 4 0x89AB");
        z.hear(0, "01234567", 1).due("reading 0 0", 0).hear(0, "CDEF89AB", 1).due("reading 0 0", 0);
    }

    private static void words() {
        bench.terms("6", "WORDS, 16 at most: a kind: 0 VERB (its number: a STATE 0 to 3), 1 SORT (0 to 3), 2 ROOM (0 to 4), 3 IT (0),");
        int[] tops = {3, 3, 4, 0};
        Bench.Run x = bench.run().refused(BAD, "word -1 0 1 0", "word 4 0 1 0");
        int number = 0;
        for (int kind = 0; kind < 4; kind++) {
            x.refused(BAD, "word " + kind + " -1 1 0", "word " + kind + " " + (tops[kind] + 1) + " 1 0");
            for (int k = 0; k <= tops[kind]; k++) x.due("word " + kind + " " + k + " 1 " + number, number++);
        }
        x.due("count 1", 14).due("word 0 0 1 0", 14).due("word 0 0 1 0", 15).refused("word 0 0 1 0", FULL)
            .due("count 1", 16);
    }

    private static void soundsOfWords() {
        bench.terms("6", "and one to four SOUNDS.");
        Bench.Run x = bench.run().does("go 0 0; rule 0 0").refused(BAD, "word 0 0 -1 0", "word 0 0 0 0", "word 0 0 5 0");
        for (int n = 1; n <= 4; n++) {
            int above = 1 << 4 * n;
            x.refused(BAD, "word 0 0 " + n + " -1", "word 0 0 " + n + " " + above).does("word 0 0 " + n + " " + (above - 1));
        }
        x.does("word 1 0 4 0x0001").hear(0, "F0001", 1).due("reading 0 1", 0).hear(0, "FF0001", 1).due("reading 0 1", 1);
        x.hear(0, "FFF0001", 1).due("reading 0 1", 2).hear(0, "FFFF0001", 1).due("reading 0 1", 3);
        x.hear(0, "F1", 0).hear(0, "F001", 0).hear(0, "F00001", 0);
        for (int k = 5; k < 15; k++) x.does("word 2 0 4 0x5555");
        x.due("word 1 3 4 0xABCD", 15).hear(0, "FFFFABCD", 1).due("reading 0 2", 15).due("reading 0 1", 3);
    }

    private static void rows() {
        bench.terms("14", "A ROW is VERB SORT, VERB SORT ROOM, or VERB IT (WORDS).");
        Bench.Run x = bench.run().does("go 0 0; rule 0 50").hear(0, "1", 0);
        x.does("word 0 1 1 1").hear(0, "1", 0).does("word 2 0 1 3").hear(0, "13", 0);
        x.does("word 3 0 1 4").hear(0, "14", 1).due("reading 0 0", 0).due("reading 0 3", NONE);
        x.hear(0, "143", 1).due("reading 0 0", 6).hear(0, "41", 1).due("reading 0 0", 12);
        x.does("word 1 0 1 2").hear(0, "123", 3).due("reading 0 0", 0).due("reading 0 3", 1);
        x.due("reading 1 0", 6).due("reading 1 2", 3).due("reading 1 3", NONE).due("reading 2 2", 2);
        Bench.Run y = bench.run().does("go 0 0; rule 0 50; word 1 0 1 2; word 3 0 1 4; word 2 0 1 3").hear(0, "243", 0);
        y.does("word 0 0 1 1").hear(0, "123", 3).due("reading 0 1", 3).due("reading 0 2", 0).due("reading 0 3", 2);
    }

    private static void prices() {
        bench.terms("14, 15", "ITS PRICE for SOUNDS heard: the least sum by which the SOUNDS of its WORDS, one behind the other, "
            + "become those: a SOUND heard for one costs its DOUBT (of the one told for the one heard), one left out 6, one more 6.");
        Bench.Run x = bench.run().does("go 0 0; rule 0 50; word 0 0 1 1; word 1 0 1 2");
        price(x, "12", 0);
        price(x, "1", 6);
        price(x, "2", 6);
        price(x, "7", 15);
        price(x, "132", 6);
        price(x, "13", 9);
        price(x, "21", 12);
        price(x, "33", 18);
        price(x, "11112222", 36);
        x.hear(0, "33333333", 0);
        x.does("doubt 2 3 8");
        price(x, "13", 8);
        x.does("doubt 3 2 1");
        price(x, "13", 8);
        x.does("doubt 2 3 0");
        price(x, "13", 0);
        x.does("doubt 1 2 5; doubt 2 1 6");
        price(x, "21", 11);
        x.does("doubt 2 1 7");
        price(x, "21", 12);
        Bench.Run y = bench.run().does("go 0 0; rule 0 50; word 0 0 4 0x1234; word 1 0 4 0x5678; word 2 0 4 0x9ABC");
        y.hear(0, "12345678", 2).due("reading 0 0", 0).due("reading 1 0", 24).due("reading 1 3", 2);
        y.hear(0, "56789ABC", 2).due("reading 0 0", 24).due("reading 0 3", 2).due("reading 1 0", 48);
        y.hear(0, "1", 1).due("reading 0 0", 42).due("reading 0 3", NONE);
    }

    private static void price(Bench.Run x, String sounds, int want) {
        x.hear(0, sounds, 1).due("reading 0 0", want);
    }

    // ---- 2: rules

    private static void rules() {
        textOfBytes();
        figures();
        itemR();
        itemX();
        itemN();
        faults();
        inForce();
        mayBySome();
        thingsNotThere();
    }

    /** The TEXT has its FAULT at this place (NONE: without), and force() answers by it. */
    private static void fault(String text, int place) {
        Bench.Run x = bench.run().text(text).due("fault", place);
        if (place == NONE) {
            x.due("force", text.replaceAll("[^;]", "").length());
        } else {
            x.refused("force", NO);
        }
    }

    private static void textOfBytes() {
        bench.terms("8", "RULES are a TEXT of bytes (200 at most):");
        Bench.Run x = bench.run();
        for (int k = 1; k <= 24; k++) x.due("write 8 0", 8 * k);
        x.due("write 7 0", 199).refused(FULL, "write 2 0", "write 8 0").due("write 1 0", 200).refused("write 1 0", FULL);
        x.due("count 2", 200).due("wipe", 200).due("write 1 0", 1);
        Bench.Run y = bench.run();
        for (int k = 0; k < 40; k++) y.text("n9,3;");
        y.due("count 2", 200).due("fault", NONE).due("force", 40).refused("write 1 59", FULL);
    }

    private static void figures() {
        bench.terms("10", "ITEMS, each a letter, numbers (one or two figures) parted by , and ; :");
        fault("n0,1;", NONE);
        fault("n00,01;", NONE);
        fault("n000,1;", 0);
        fault("n0,001;", 0);
        fault("n,1;", 0);
        fault("n0,;", 0);
        fault("n;", 0);
        fault("n", 0);
        fault(";", 0);
        fault("0,1;", 0);
        fault("nn0,1;", 0);
        fault("m0,1;", 0);
        fault("o0,1;", 0);
        fault("N0,1;", 0);
        fault("n0;1;", 0);
        fault("n0,1", 0);
        fault("n0,1,", 0);
        fault("n0,1:", 0);
        fault("n0/1;", 0);
        fault("n0,1;;", 5);
        fault("n/,1;", 0);
        fault("n:,1;", 0);
        fault("n0,1,1;", 0);
        fault("n0;", 0);
        fault("x0,1,0;", 0);
        fault("x0,1,0,0,0;", 0);
        fault("r0,0,0,0;", 0);
        fault("r0,0,0,0,0,0;", 0);
    }

    private static void itemR() {
        bench.terms("10, 12", "rF,S,R,a,b FOLK F (0 to 5; 6: a guest) may turn THINGS of SORT S (4: any) in ROOM R (5: any) "
            + "in HOURS of the day a to b (0 to 23, a no more than b)");
        fault("r0,0,0,0,0;", NONE);
        fault("r6,4,5,23,23;", NONE);
        fault("r06,04,05,00,23;", NONE);
        fault("r7,0,0,0,0;", 0);
        fault("r0,5,0,0,0;", 0);
        fault("r0,0,6,0,0;", 0);
        fault("r0,0,0,0,24;", 0);
        fault("r0,0,0,24,24;", 0);
        fault("r0,0,0,1,0;", 0);
        fault("r0,0,0,23,22;", 0);
        Bench.Run x = bench.run().does("thing 0 0 0; thing 4 3 0; thing 4 0 0").rules("r5,3,4,5,7;r6,4,5,23,23;r0,0,5,0,0;");
        x.due(0, "may 5 1 4", "may 5 1 8", "may 5 0 6", "may 5 2 6", "may 4 1 6", "may 6 1 6")
            .due(1, "may 5 1 5", "may 5 1 6", "may 5 1 7");
        x.due(0, "may 6 0 22", "may 6 0 0").due(1, "may 6 0 23", "may 6 1 23", "may 6 2 23")
            .due(0, "may 5 0 23", "may 0 0 23");
        x.due(1, "may 0 0 0", "may 0 2 0").due(0, "may 0 1 0", "may 0 0 1", "may 1 0 0");
    }

    private static void itemX() {
        bench.terms("10, 13", "xT,v,U,w it is BARRED that THING T (0 to 9) has STATE v (1 to 3) or more while U has w (0 to 3) or more");
        fault("x0,1,0,0;", NONE);
        fault("x9,3,9,3;", NONE);
        fault("x10,1,0,0;", 0);
        fault("x0,0,0,0;", 0);
        fault("x0,4,0,0;", 0);
        fault("x0,1,10,0;", 0);
        fault("x0,1,0,4;", 0);
        Bench.Run x = bench.speakers().does("thing 0 0 0; thing 1 0 0").rules("r0,4,5,0,23;x0,1,1,0;x0,2,1,2;x0,3,1,3;");
        x.due("barred", 0).wish(0, "349", 2).due("barred", 0).rules("r0,4,5,0,23;").wish(0, "148", 1);
        int[][] want = {{0, 0, 0, 0}, {1, 1, 1, 1}, {1, 1, 2, 2}, {1, 1, 2, 3}};
        for (int t = 0; t < 4; t++) {
            for (int u = 0; u < 4; u++) {
                x.rules("r0,4,5,0,23;").does("hear 0 100 3 0x" + t + "48; done; hear 0 100 3 0x" + u + "49; done");
                x.rules("x0,1,1,0;x0,2,1,2;x0,3,1,3;").due("barred", want[t][u]);
            }
        }
    }

    private static void itemN() {
        bench.terms("10, 13", "nT,v it is BARRED that T has STATE v (1 to 3) or more while none of FOLK is in its ROOM");
        fault("n0,1;", NONE);
        fault("n9,3;", NONE);
        fault("n10,1;", 0);
        fault("n0,0;", 0);
        fault("n0,4;", 0);
        for (int v = 0; v < 4; v++) {
            Bench.Run x = bench.speakers().does("thing 4 0 0").wish(0, v + "4C", v == 0 ? 0 : 1).rules("n0,1;n0,2;n0,3;");
            x.due("barred", v).does("go 5 4").due("barred", 0).does("go 2 4").due("barred", 0).does("go 5 3")
                .due("barred", 0);
            x.does("go 2 -1").due("barred", v);
        }
    }

    private static void faults() {
        bench.terms("10", "FAULT: the place of the first byte of the first ITEM that is not so.");
        fault("", NONE);
        fault("q", 0);
        fault("n0,1;q", 5);
        fault("n0,1;x0,1,0,0;r0,0,0,0,24;", 14);
        fault("n0,1;n0,4;n0,4;", 5);
        fault("n0,4;n0,1;", 0);
        String nearlyFull = "n0,1;".repeat(39);
        fault(nearlyFull + "n0,4;", 195);
        fault(nearlyFull + "n0,1", 195);
        fault(nearlyFull + "n0,11", 195);
        fault("n0,01;".repeat(33) + "n0", 198);
        fault("n0,1;".repeat(39) + "n9,1;", NONE);
        bench.run().text("n0,1;n0,1").due("fault", 5).text(";").due("fault", NONE).text("n").due("fault", 10);
    }

    private static void inForce() {
        bench.terms("1, 11", "IN FORCE is a TEXT without FAULT (empty at first).");
        Bench.Run x = bench.run().does("thing 0 0 0").due("count 3", 0).due("may 0 0 0", 0).due("force", 0);
        x.text("r0,4,5,0,23;").due("count 3", 0).due("may 0 0 0", 0).due("force", 1).due("may 0 0 0", 1);
        x.text("n").refused("force", NO).due("count 3", 1).due("may 0 0 0", 1);
        x.does("wipe").due("count 3", 1).due("may 0 0 0", 1).due("force", 0).due("count 3", 0).due("may 0 0 0", 0);
    }

    private static void mayBySome() {
        bench.terms("12", "MAY: some ITEM r lets it.");
        Bench.Run x = bench.run().does("thing 0 0 0").rules("x0,1,0,1;n0,1;").due("may 0 0 0", 0);
        x.rules("r0,1,0,0,23;r0,0,1,0,23;r1,0,0,0,23;r0,0,0,1,23;").due("may 0 0 0", 0).due("may 0 0 1", 1);
        x.rules("r0,1,0,0,23;r0,0,1,0,23;r0,0,0,0,0;").due("may 0 0 0", 1).due("may 0 0 1", 0);
    }

    private static void thingsNotThere() {
        bench.terms("13", "(THINGS that are not there have STATE 0; x asks of T and U alike, too.)");
        Bench.Run x = bench.speakers().does("thing 0 0 0").wish(0, "24", 1);
        x.rules("x0,1,9,0;").due("barred", 1).rules("x0,1,9,1;").due("barred", 0).rules("x9,1,0,0;n9,1;n1,1;")
            .due("barred", 0);
        x.rules("x0,2,0,2;").due("barred", 1).rules("x0,2,0,3;").due("barred", 0).rules("x0,3,0,2;").due("barred", 0);
        x.rules("x0,1,0,0;").due("barred", 1);
    }

    // ---- 3: what is heard

    private static void heard() {
        howMuchIsHeard();
        sureness();
        limit();
        limitAtTop();
        orderOfReadings();
        twelve();
        meant();
        meantByIt();
        asWhenHeard();
        heardAhead();
    }

    private static void howMuchIsHeard() {
        bench.terms("14", "HEARD are 1 to 8 SOUNDS of one of FOLK who is in a ROOM,");
        Bench.Run x = bench.run().does("go 0 4; word 0 0 1 15; word 1 0 1 15; rule 0 50");
        x.refused(BAD, "hear 0 100 -1 0", "hear 0 100 0 0", "hear 0 100 9 0").refused("open", NO);
        for (int n = 1; n <= 8; n++) {
            long above = 1L << 4 * n;
            x.refused(BAD, "hear 0 100 " + n + " -1", "hear 0 100 " + n + " " + above);
            x.due("hear 0 100 " + n + " " + (above - 1), 1).due("reading 0 0", 6 * Math.abs(n - 2));
            x.refused(BAD, "hear 0 100 " + n + " " + Long.MIN_VALUE, "hear 0 100 " + n + " " + Long.MAX_VALUE);
        }
        x.refused("hear 1 100 1 0", NO).due("go 0 -1", 4).refused("hear 0 100 1 0", NO).due("open", 0);
        x.does("go 0 0").due("hear 0 100 1 0", 1);
    }

    private static void sureness() {
        bench.terms("14, 19", "with sureness 0 to 100 (below SURE as it is then, 60 at first: rights of a guest).");
        Bench.Run x = bench.speakers().does("thing 0 0 0").refused(BAD, "hear 0 -1 2 0x14", "hear 0 101 2 0x14");
        x.does("hear 0 59 2 0x14").refused("done", NO).does("hear 0 60 2 0x14").due("done", 1);
        x.does("rule 2 0; hear 0 0 2 0x04").due("done", 1).does("rule 2 1; hear 0 0 2 0x14").refused("done", NO);
        x.does("hear 0 1 2 0x14").due("done", 1).does("rule 2 100; hear 0 99 2 0x04").refused("done", NO);
        x.does("hear 0 100 2 0x04").due("done", 1);
        x.does("rule 2 60; hear 0 59 2 0x14; rule 2 59").refused("done", NO).does("hear 0 59 2 0x14; rule 2 60")
            .due("done", 1);
        x.rules("r6,4,5,0,23;").does("hear 0 60 2 0x04").refused("done", NO).does("hear 0 59 2 0x04").due("done", 1);
    }

    private static void limit() {
        bench.terms("7, 14", "READINGS: all ROWS with a PRICE of LIMIT (0 to 50; 20 at first) at most,");
        Bench.Run x = bench.run().does("go 0 0; word 0 0 1 1; word 1 0 1 2; doubt 2 3 2; doubt 2 4 3; doubt 2 5 1");
        x.hear(0, "11113", 1).due("reading 0 0", 20).hear(0, "11114", 0).refused("reading 0 0", NONE);
        x.refused(BAD, "rule 0 -1", "rule 0 51").due("rule 0 0", 20).hear(0, "12", 1).hear(0, "15", 0);
        x.due("rule 0 1", 0).hear(0, "15", 1).hear(0, "13", 0).due("rule 0 50", 1);
    }

    private static void limitAtTop() {
        bench.terms("7, 14", "LIMIT (0 to 50; 20 at first) at most,");
        Bench.Run x = bench.run().does("go 0 0; rule 0 50; word 0 0 4 0x1111; word 1 0 4 0x1111; word 2 0 1 1; "
            + "doubt 1 3 2; doubt 1 4 3");
        // of nine SOUNDS told eight are left out: 48 and the DOUBT
        x.does("hear 0 100 1 0x3").due("reading 1 0", 50).due("reading 1 3", 2);
        x.hear(0, "4", 1).due("reading 0 0", 45).refused("reading 1 0", NONE);
    }

    private static void orderOfReadings() {
        bench.terms("14, 15", "by PRICE, then the number of VERB, of the second WORD, of the third (none ahead of any);");
        Bench.Run x = bench.run().does("go 0 0; word 2 4 1 8; word 3 0 1 5; word 1 3 1 5; word 0 3 1 1; word 1 0 1 5; "
            + "word 0 0 1 1; word 2 0 1 8");
        x.does("doubt 8 5 0; rule 0 6");
        // without and with a ROOM at 6 behind those at 0; verbs 3, 5; seconds 1 (IT), 2, 4; rooms 0, 6
        int[][] want = {{0, 3, 1, NONE}, {0, 3, 2, NONE}, {0, 3, 4, NONE}, {0, 5, 1, NONE}, {0, 5, 2, NONE}, {0, 5, 4, NONE},
            {6, 3, 2, 0}, {6, 3, 2, 6}, {6, 3, 4, 0}, {6, 3, 4, 6}, {6, 5, 2, 0}, {6, 5, 2, 6}};
        x.hear(0, "15", 12);
        for (int i = 0; i < 12; i++) {
            for (int what = 0; what < 4; what++) x.due("reading " + i + " " + what, want[i][what]);
        }
        // of one PRICE: the lower second WORD first, though it has a third
        Bench.Run y = bench.run().does("go 0 0; rule 0 0; word 2 4 1 8; word 1 0 1 5; word 0 0 1 1; word 1 1 2 0x58");
        y.hear(0, "158", 2).due("reading 0 2", 1).due("reading 0 3", 0).due("reading 1 2", 3).due("reading 1 3", NONE);
        // of one PRICE, VERB and second WORD: without a third ahead of the lowest
        Bench.Run z = bench.run().does("go 0 0; rule 0 6; word 2 0 1 8; word 1 0 1 5; word 0 0 1 1; word 2 1 1 8; doubt 5 8 6");
        z.hear(0, "18", 3).due(6, "reading 0 0", "reading 1 0", "reading 2 0");
        z.due("reading 0 3", NONE).due("reading 1 3", 0).due("reading 2 3", 3);
    }

    /** One VERB, one SORT, one IT and this many ROOMS, all of PRICE 0 to 6: two ROWS and one for each ROOM. */
    private static void readings(int rooms, int want) {
        Bench.Run x = bench.run().does("go 0 0; word 0 0 1 1; word 1 0 1 2; word 3 0 1 2");
        for (int k = 0; k < rooms; k++) x.does("word 2 " + k % 5 + " 1 3");
        x.hear(0, "12", want).due("reading " + (want - 1) + " 3", want == 2 ? NONE : want);
        x.refused("reading " + want + " 0", NONE);
    }

    private static void twelve() {
        bench.terms("14, 15", "12 at most, the first.");
        readings(0, 2);
        readings(9, 11);
        readings(10, 12);
        readings(11, 12);
        readings(13, 12);
        Bench.Run x = bench.run().does("go 0 0; word 0 0 1 1; word 0 1 1 1; word 0 2 1 1; word 0 3 1 1; doubt 1 4 1");
        for (int k = 0; k < 12; k++) x.does("word 1 " + k % 4 + " 1 " + (k == 11 ? 2 : 3));
        x.does("doubt 3 2 1").hear(0, "12", 12);
        // the last SORT is the cheapest, with each VERB; of those of PRICE 1 there is place for eight
        for (int i = 0; i < 4; i++) x.due("reading " + i + " 0", 0).due("reading " + i + " 1", i)
            .due("reading " + i + " 2", 15);
        for (int i = 4; i < 12; i++) x.due("reading " + i + " 0", 1).due("reading " + i + " 1", 0)
            .due("reading " + i + " 2", i);
    }

    private static void meant() {
        bench.terms("15", "MEANT are by a READING the THINGS of that SORT in that ROOM (without: the speaker's),");
        Bench.Run x = bench.speakers().hear(0, "14", 1).due("reading 0 4", 0);
        x.does("thing 0 0 0; thing 0 1 0; thing 4 0 0; thing 0 0 0; thing 1 3 0; thing 1 3 0; thing 1 3 0; thing 1 3 0; "
            + "thing 1 3 0; thing 1 3 0");
        x.hear(0, "14", 1).due("reading 0 4", 9).hear(0, "148", 1).due("reading 0 4", 9).hear(0, "14C", 1)
            .due("reading 0 4", 4);
        x.hear(0, "149", 1).due("reading 0 4", 0).hear(0, "179", 1).due("reading 0 4", 0x3F0).hear(0, "15", 1)
            .due("reading 0 4", 2);
        x.does("go 0 4").hear(0, "14", 1).due("reading 0 4", 4).hear(1, "14", 1).due("reading 0 4", 9);
        x.does("go 0 1").hear(0, "17", 1).due("reading 0 4", 0x3F0).wish(0, "17", 0x3F0);
    }

    private static void meantByIt() {
        bench.terms("15", "by IT those DONE last (by a wish; none at first), of which STATE may be that of VERB; "
            + "it is void, if there are none.");
        Bench.Run x = bench.speakers().does("thing 0 0 0; thing 1 1 0; thing 1 2 0");
        x.hear(0, "1D", 1).due("reading 0 4", 0).due("open", 0).refused("done", NO);
        x.wish(0, "14", 1).hear(1, "3D", 1).due("reading 0 4", 1).due("open", 1);
        x.wish(0, "159", 2).hear(0, "1D", 1).due("reading 0 4", 2).hear(0, "2D", 1).due("reading 0 4", 0).due("open", 0);
        x.wish(0, "169", 4).hear(0, "2D", 1).due("reading 0 4", 4).hear(0, "3D", 1).due("reading 0 4", 0);
        x.does("at 1 0 0; ticks 1").hear(0, "0D", 1).due("reading 0 4", 4);
        x.rules("r0,2,5,0,23;").wish(0, "14", NO).hear(0, "0D", 1).due("reading 0 4", 4);
    }

    private static void asWhenHeard() {
        bench.terms("15, 16", "(READINGS, what is MEANT, and OPEN are as things stand when it is HEARD;");
        Bench.Run x = bench.run().does("go 0 0; thing 0 0 0; thing 0 1 0; word 0 1 1 1; word 1 0 1 2; word 1 1 1 3; "
            + "doubt 3 2 4");
        x.hear(0, "12", 2).due("open", 1).does("rule 1 4").due("open", 1).does("rule 0 3").due("reading 1 0", 4);
        x.does("word 1 2 1 2; doubt 3 2 0; thing 0 0 0; go 0 1").due("open", 1).due("reading 0 4", 1).due("reading 1 4", 2);
        x.due("reading 1 0", 4).refused("reading 2 0", NONE).does("go 0 0").hear(0, "12", 3).due("open", 2)
            .due("reading 0 4", 5);
        Bench.Run y = bench.speakers().does("thing 0 0 0; thing 1 0 0").wish(0, "14", 1).hear(0, "0D", 1);
        y.due("reading 0 4", 1).due("undo", 1).due("reading 0 4", 1).does("go 0 -1").due("done", 0).due("count 6", 2);
    }

    private static void heardAhead() {
        bench.terms("14, 15", "what was HEARD ahead is over.)");
        Bench.Run x = bench.speakers().does("thing 0 0 0; thing 0 1 0").hear(0, "14", 1).hear(1, "15", 1)
            .due("reading 0 4", 2);
        x.hear(0, "F", 0).refused("reading 0 0", NONE).due("open", 0).refused("done", NO).refused("answer 0 1", NO);
        x.hear(0, "14", 1).refused("hear 2 100 2 0x15", NO).refused("hear 0 101 2 0x15", BAD).due("reading 0 4", 1)
            .due("done", 1);
    }

    // ---- 3: what is open, asked, answered

    private static void open() {
        margin();
        marginAtTop();
        marginAboveVoid();
        taken();
        asked();
        answered();
    }

    /** VERBS to 1 and to 2, the second dearer by the DOUBT, for the one lamp. */
    private static Bench.Run twoVerbs(int doubt) {
        return bench.run().does("go 0 0; thing 0 0 0; word 0 1 1 1; word 0 2 1 2; word 1 0 1 4; doubt 2 1 " + doubt);
    }

    private static void margin() {
        bench.terms("7, 16", "OPEN: READINGS that are not void, with a PRICE no more than MARGIN (0 to 20; 3 at first)");
        twoVerbs(2).hear(0, "14", 2).due("open", 2);
        twoVerbs(3).hear(0, "14", 2).due("open", 2);
        twoVerbs(4).hear(0, "14", 2).due("open", 1);
        twoVerbs(0).due("rule 1 0", 3).hear(0, "14", 2).due("open", 2);
        twoVerbs(1).due("rule 1 0", 3).hear(0, "14", 2).due("open", 1);
        twoVerbs(0).refused(BAD, "rule 1 -1", "rule 1 21").due("rule 1 20", 3).due("rule 1 0", 20);
    }

    private static void marginAtTop() {
        bench.terms("7, 16", "MARGIN (0 to 20; 3 at first)");
        for (int doubt = 1; doubt <= 3; doubt++) {
            Bench.Run x = bench.run().does("go 0 0; thing 0 0 0; word 0 1 1 1; word 0 2 4 0x2222; word 1 0 1 4; rule 0 50; "
                + "rule 1 20");
            x.does("doubt 2 1 " + doubt).hear(0, "14", 2).due("reading 1 0", 18 + doubt).due("open", doubt <= 2 ? 2 : 1);
        }
    }

    private static void marginAboveVoid() {
        bench.terms("16", "above the least of those that are not void.");
        Bench.Run x = bench.run().does("go 0 0; thing 0 1 0; thing 0 2 0; word 0 1 1 1; word 1 0 1 4; word 1 1 1 5; "
            + "word 1 2 1 6");
        x.does("doubt 5 4 9; doubt 6 4 9").hear(0, "14", 3).due("reading 0 4", 0).due("reading 0 0", 0).due("open", 2);
        x.does("doubt 5 4 6").hear(0, "14", 3).due("open", 2).does("doubt 5 4 5").hear(0, "14", 3).due("open", 1)
            .due("ask", NONE);
        Bench.Run y = bench.run().does("go 0 0; thing 0 1 0; word 0 2 1 1; word 1 1 1 5").hear(0, "15", 1).due("open", 0);
    }

    private static void taken() {
        bench.terms("16, 19", "TAKEN is the first of them, if all would make the same STATES of all THINGS; else one ASKS.");
        Bench.Run x = bench.run().does("go 0 0; thing 0 0 0; thing 1 0 0; word 0 1 1 1; word 1 0 1 4; word 2 0 1 8; "
            + "word 2 1 1 9; rule 1 6");
        x.rules("r0,4,5,0,23;").hear(0, "14", 3).due("open", 2).due("ask", 2).refused("done", NO);
        x.due("answer 2 -1", 1).due("open", 1).due("done", 1).due("open", NO);
        // rows without a ROOM and with the speaker's do the same
        Bench.Run y = bench.run().does("go 0 0; thing 0 0 0; word 0 1 1 1; word 1 0 1 4; word 2 0 1 8; word 2 1 1 9; "
            + "rule 1 6");
        y.rules("r0,4,5,0,23;").hear(0, "14", 3).due("open", 1).refused("ask", NONE).refused("answer 2 1", NO).due("done", 1);
        // what is as it is wished already, here and there, is made the same by both
        Bench.Run z = bench.speakers().does("thing 0 0 0; thing 1 0 0; rule 0 6; rule 1 6");
        z.hear(0, "14", 6).due("open", 2).does("hear 0 100 2 0x14; answer 2 9").due("done", 2);
        z.does("hear 0 100 2 0x14; answer 2 -1").due("done", 1).hear(0, "14", 6).due("open", 1).due("done", 0)
            .due("why 0", 1001);
        z.hear(0, "1D", 1).due("reading 0 4", 1);
    }

    private static void asked() {
        bench.terms("17", "ASK: the part (0 VERB, 1 second, 2 third WORD) by which the greatest number of OPEN READINGS "
            + "with one answer is least (of several the lowest part).");
        // two VERBS, one SORT: 1, 2 and 2
        twoVerbs(0).hear(0, "14", 2).due("ask", 0);
        // one VERB, two SORTS
        Bench.Run x = bench.run().does("go 0 0; thing 0 0 0; thing 0 1 0; word 0 1 1 1; word 1 0 1 4; word 1 1 1 4");
        x.hear(0, "14", 2).due("ask", 1);
        // one VERB, one SORT, here or there
        Bench.Run y = bench.run().does("go 0 0; thing 0 0 0; thing 1 0 0; word 0 1 1 1; word 1 0 1 4; word 2 1 1 8; "
            + "rule 1 6");
        y.hear(0, "14", 2).due("ask", 2);
        // twelve READINGS: four VERBS with three SORTS that are lamps: 3, 4 and 12
        Bench.Run v = bench.run().does("go 0 0; thing 0 0 0; word 0 0 1 1; word 0 1 1 1; word 0 2 1 1; word 0 3 1 1");
        v.does("word 1 0 1 4; word 1 0 1 4; word 1 0 1 4").hear(0, "14", 12).due("open", 4).due("ask", 0)
            .due("answer 0 3", 3);
        // two VERBS, two SORTS, all four: 2, 2 and 4
        Bench.Run z = bench.run().does("go 0 0; thing 0 0 0; thing 0 3 0; word 0 0 1 1; word 0 1 1 1; word 1 0 1 4; "
            + "word 1 3 1 4");
        z.does("at 1 0 3; at 1 1 1; ticks 1").hear(0, "14", 4).due("open", 4).due("ask", 0);
        // two SORTS, each here or there: 4, 2 and 2
        Bench.Run w = bench.run().does("go 0 0; thing 0 0 0; thing 0 3 0; thing 1 0 0; thing 1 3 0; word 0 1 1 1; "
            + "word 1 0 1 4; word 1 3 1 4");
        w.does("word 2 1 1 8; rule 1 6").hear(0, "14", 4).due("open", 4).due("ask", 1);
        // one VERB more, for lamps alone, here or there: 4, 4 and 3
        w.does("word 0 2 1 1").hear(0, "14", 8).due("open", 6).due("ask", 2);
    }

    private static void answered() {
        bench.terms("18", "An ANSWER (a WORD, or -1 for none of the third part) leaves those OPEN that have it there; "
            + "nothing changes, if none has.");
        Bench.Run x = bench.run().does("go 0 0; thing 0 0 0; thing 1 0 0; word 0 1 1 1; word 1 0 1 4; word 2 1 1 8; "
            + "word 2 2 1 8; rule 1 6");
        x.hear(0, "14", 3).due("open", 2).refused(BAD, "answer 2 -2", "answer 2 4", "answer 0 -1", "answer 1 -1",
            "answer 0 4", "answer 1 4");
        x.refused(NO, "answer 0 1", "answer 1 0", "answer 2 0", "answer 2 3").due("open", 2);
        x.due("answer 0 0", 2).due("answer 1 1", 2).due("answer 2 2", 1).refused("answer 2 -1", NO).due("answer 2 2", 1)
            .due("open", 1);
        x.hear(0, "14", 3).due("answer 2 -1", 1).refused("answer 2 2", NO).due("open", 1);
        Bench.Run y = bench.run().does("go 0 0; thing 0 0 0; word 0 0 1 1; word 0 1 1 1; word 0 2 1 1; word 0 3 1 1");
        y.does("word 1 0 1 4; word 1 0 1 4; word 1 0 1 4").hear(0, "14", 12).due("answer 1 6", 4).due("answer 2 -1", 4)
            .due("answer 0 3", 1);
    }

    // ---- 3: done and taken back

    private static void done() {
        rightsOfAll();
        harm();
        changedByWish();
        twoHundred();
        over();
        back();
    }

    private static void rightsOfAll() {
        bench.terms("19", "DONE is what is TAKEN: NO, if the speaker MAY not turn one of THINGS MEANT at this HOUR of the day;");
        Bench.Run x = bench.speakers().does("thing 0 0 0; thing 0 1 0; thing 1 0 0").rules("r0,0,0,5,6;r0,1,0,0,4;");
        x.wish(0, "14", NO).refused("done", NO).does("ticks 4").refused("done", NO).does("ticks 1").due("done", 1);
        x.wish(0, "15", NO).does("ticks 1").wish(0, "04", 1).hear(0, "14", 1).does("ticks 1").refused("done", NO);
        x.does("ticks 17").hear(0, "15", 1).does("ticks 4").due("done", 2).hear(0, "149", 1).refused("done", NO);
        Bench.Run y = bench.speakers().does("thing 0 0 0; thing 1 0 0; thing 0 0 0").wish(0, "14", 5).wish(0, "149", 2);
        y.rules("r0,0,0,0,23;").wish(0, "0D", NO).wish(1, "04", NO).wish(0, "04", 5);
    }

    private static void harm() {
        bench.terms("19", "HARM: if some ITEM x, n would bar what it does not bar now: nothing.");
        Bench.Run x = bench.speakers().does("thing 0 0 0; thing 1 0 0; when 0 2 1 0").rules(ALL_MAY + "x0,2,1,1;");
        x.wish(0, "24", 1).wish(0, "04", 1).wish(0, "149", 2).wish(0, "14", 1).hear(0, "24", 1).refused("done", HARM);
        x.due("state 0", 1).due("count 6", 4).due("open", 1).rules(ALL_MAY).due("done", 1).does("hear 0 100 3 0x149")
            .due("done", 2);
        x.rules(ALL_MAY + "x0,2,1,1;").due("barred", 1).wish(0, "34", 1).due("barred", 1);
        x.rules(ALL_MAY + "x0,2,1,1;x0,1,1,1;x1,2,0,3;").hear(0, "249", 1).refused("done", HARM).wish(0, "14", 1);
        x.rules(ALL_MAY + "n1,2;").hear(0, "249", 1).refused("done", HARM).does("go 1 1").due("done", 2);
        x.does("go 1 -1").due("barred", 1).wish(0, "349", 2).wish(0, "149", 2).hear(0, "349", 1).refused("done", HARM);
    }

    private static void changedByWish() {
        bench.terms("19", "Else THINGS MEANT get the STATE (those that change are CHANGED by this wish;");
        Bench.Run x = bench.speakers().does("thing 0 0 0; thing 0 0 0; thing 0 1 0; at 1 0 1; ticks 1");
        x.wish(0, "14", 2).due(1, "state 0", "state 1").due("why 0", 2000).due("why 1", 1000).wish(0, "14", 0)
            .due("count 6", 2);
        x.wish(0, "34", 3).due(3, "state 0", "state 1").due("state 2", 0).due("undo", 3).due(1, "state 0", "state 1");
        x.due("undo", 0).due("undo", 0).refused("undo", NO);
    }

    private static void twoHundred() {
        bench.terms("19, 31, 32", "wishes DONE are numbered from 0, 200 at most), and by changes, THING by THING, standing wishes fire (see 4).");
        Bench.Run x = bench.run().does("thing 0 0 0; word 0 0 1 0; word 0 1 1 1; word 1 0 1 4; go 0 0; rule 0 0")
            .rules("r0,4,5,0,23;");
        for (int k = 0; k < 200; k++) x.wish(0, k % 2 == 0 ? "14" : "04", 1);
        x.due("count 6", 200).due("why 0", 1199).hear(0, "14", 1).refused("done", FULL).due("undo", 1).due("why 0", 3199);
        x.refused("done", FULL).rules("r0,4,5,0,23;x0,1,0,1;").does("at 1 0 0; ticks 1").refused("done", FULL)
            .due("count 6", 200);
        x.does("wipe; force").refused("done", NO);
        Bench.Run y = bench.speakers().does("thing 0 0 0; thing 0 0 0; thing 1 0 0; when 1 1 2 1; when 0 1 2 2")
            .wish(0, "14", 3);
        // THING 0 wakes first, THING 1 behind it
        y.due("why 0", 1000).due("state 2", 1).due("why 2", 2000);
    }

    private static void over() {
        bench.terms("15 to 19", "What was heard is over then.");
        Bench.Run x = bench.speakers().does("thing 0 0 0").wish(0, "14", 1).refused(NO, "open", "ask", "answer 0 1", "done");
        x.refused("reading 0 0", NONE).wish(0, "14", 0).refused("open", NO).hear(0, "14", 1).due("done", 0);
    }

    private static void back() {
        bench.terms("20", "BACK goes the wish DONE last that is not BACK yet: of THINGS CHANGED by it those that nothing changed since "
            + "get the STATE they had ahead (no standing wish fires by that; BARRED or not).");
        Bench.Run x = bench.speakers().refused("undo", NO).does("thing 0 0 0; thing 0 0 0; thing 1 0 0");
        x.wish(0, "14", 3).due("undo", 3).due(3000, "why 0", "why 1").refused("undo", NO).due(0, "state 0", "state 1");
        x.wish(0, "24", 3).wish(0, "149", 4).due("undo", 4).due("undo", 3).due("why 0", 3001).due("why 2", 3002);
        x.refused("undo", NO).wish(0, "14", 3).wish(0, "34", 3).due("undo", 3).due(1, "state 0", "state 1");
        x.due("undo", 0).due(1, "state 0", "state 1").due("why 0", 3004).refused("undo", NO);
        Bench.Run y = bench.speakers().does("thing 0 0 0; thing 0 0 0; at 1 0 2; at 2 0 1").wish(0, "14", 3).does("ticks 2");
        // changed there and back again by one standing
        y.due("undo", 2).due("state 0", 1).due("state 1", 0).refused("undo", NO);
        Bench.Run z = bench.speakers().does("thing 0 0 0").wish(0, "14", 1).wish(0, "04", 1).does("when 0 1 0 3");
        z.rules("x0,1,0,1;").due("undo", 1).due("state 0", 1).due("barred", 1).due("why 0", 3001);
    }

    // ---- 4: standing wishes

    private static void standing() {
        eight();
        whenItComes();
        notDone();
        heldBack();
        thirty();
        rowOrder();
        tick();
        quarrel();
        wake();
    }

    private static void eight() {
        bench.terms("21, 22, 28", "STANDING, 8 at most:");
        for (String ninth : new String[] {"when 0 1 0 0", "at 0 0 0", "keepHabit 0"}) {
            Bench.Run x = bench.run().does("thing 0 0 0");
            for (int k = 0; k < 8; k++) x.due(k % 3 == 0 ? "when 0 1 0 0" : k % 3 == 1 ? "at 5 0 0" : "keepHabit 501", k);
            x.due("count 4", 8).refused(ninth, FULL).due("count 4", 8);
        }
        Bench.Run y = bench.run();
        for (int k = 0; k < 8; k++) y.does("thing 0 0 0; at 1 " + k + " 1");
        y.does("ticks 1");
        for (int k = 0; k < 8; k++) y.due("why " + k, 2000 + k).due("state " + k, 1);
    }

    private static void whenItComes() {
        bench.terms("21, 22", "when THING t (by any change) comes to STATE v, u becomes w; "
            + "or at an HOUR of the day, u becomes w.");
        Bench.Run x = bench.speakers().does("thing 0 0 0; thing 1 0 0; thing 2 0 0; when 0 2 1 1; when 1 1 2 3; "
            + "when 0 0 1 0");
        x.due(0, "state 1", "state 2").wish(0, "14", 1).due("state 1", 0).wish(0, "34", 1).due("state 1", 0);
        x.wish(0, "24", 1).due("state 1", 1).due("state 2", 3).due("why 2", 2001).wish(0, "24", 0);
        x.does("hear 0 100 3 0x049").due("done", 2).wish(0, "24", 0).due("state 1", 0);
        x.does("hear 0 100 3 0x149").due("done", 2).due("undo", 2).due("undo", 0).due("undo", 0).due("state 0", 2);
        Bench.Run y = bench.run().does("thing 0 0 0; at 23 0 1; at 0 0 2; ticks 22").due("state 0", 0).does("ticks 1")
            .due("state 0", 1);
        y.does("ticks 1").due("state 0", 2).refused(BAD, "at -1 0 0", "at 24 0 0");
    }

    private static void notDone() {
        bench.terms("23", "A change by one is not done, if u is at w, or if some ITEM x, n would bar what it does not bar yet");
        Bench.Run x = bench.run().does("thing 0 0 0; thing 0 0 0; at 1 0 0; when 0 0 1 1; ticks 1")
            .due(0, "state 1", "count 5").due("why 0", NONE);
        Bench.Run y = bench.run().does("thing 0 0 0; thing 0 0 0; at 1 0 1; at 2 0 2; at 3 0 3; when 0 2 1 3")
            .rules("x0,2,1,0;");
        y.does("ticks 1").due("state 0", 1).due("count 5", 0).does("ticks 1").due("state 0", 1).due("state 1", 0)
            .due("count 5", 1);
        y.does("ticks 1").due("state 0", 1).due("count 5", 2).rules("").does("ticks 23").due("state 0", 2).due("state 1", 3);
        y.rules("x0,2,1,0;").does("ticks 1").due("state 0", 3).due("count 5", 2);
        Bench.Run z = bench.run().does("thing 4 0 0; at 1 0 1").rules("n0,1;").does("ticks 1").due("state 0", 0)
            .due("count 5", 1);
        z.does("go 5 4; ticks 24").due("state 0", 1).due("count 5", 1);
    }

    private static void heldBack() {
        bench.terms("23, 32", "(HELD back: counted).");
        Bench.Run x = bench.run().does("thing 0 0 0; thing 0 0 0; at 1 0 1; at 1 0 2; at 1 1 1; when 1 1 0 3")
            .rules("x0,1,0,1;");
        x.due("count 5", 0).does("ticks 1").due("count 5", 3).due("state 1", 1).does("ticks 24").due("count 5", 5);
        Bench.Run y = bench.speakers().does("thing 0 0 0; thing 1 0 0; when 0 1 1 1").rules(ALL_MAY + "x1,1,1,1;");
        y.wish(0, "14", 1).due("count 5", 1).due("state 1", 0).hear(0, "149", 1).refused("done", HARM).due("count 5", 1);
    }

    private static void thirty() {
        bench.terms("19, 23", "30 changes at most at one time, those of the wish itself counted (what is left is dropped).");
        // the lamp goes on by 1, 2, 3, 1, ..: its STATE tells how many changes there were
        Bench.Run x = bench.run().does("thing 0 0 0; when 0 1 0 2; when 0 2 0 3; when 0 3 0 1; at 1 0 1; ticks 1")
            .due("state 0", 3);
        x.due("why 0", 2001).does("ticks 23").due("state 0", 3).does("ticks 1").due("state 0", 3).due("count 5", 0);
        for (int things = 1; things <= 10; things++) {
            Bench.Run y = bench.speakers();
            for (int k = 0; k < things; k++) y.does("thing 0 0 0");
            y.does("when 0 1 0 2; when 0 2 0 3; when 0 3 0 1").wish(0, "14", (1 << things) - 1)
                .due("state 0", (30 - things) % 3 + 1);
            y.due("state " + (things - 1), things == 1 ? 29 % 3 + 1 : 1).due("undo", (1 << things) - 2);
        }
        // nine that are as they are wished do not count: one and 29
        Bench.Run z = bench.speakers();
        for (int k = 0; k < 10; k++) z.does("thing 0 0 0");
        z.wish(0, "14", 1023).does("at 1 0 0; ticks 1; when 0 1 0 2; when 0 2 0 3; when 0 3 0 1").wish(0, "14", 1)
            .due("state 0", 3);
        // each HOUR has thirty of its own
        Bench.Run w = bench.run().does("thing 0 0 0; when 0 1 0 2; when 0 2 0 3; when 0 3 0 1; at 1 0 1; at 2 0 2; ticks 2")
            .due("state 0", 1);
    }

    private static void rowOrder() {
        bench.terms("19, 23", "Changes go in a row: each that is done, in the row's order, wakes those standing for it, by numbers, whose changes come behind;");
        Bench.Run x = bench.run().does("thing 0 0 0; thing 0 0 0; thing 0 0 0; when 0 1 2 1; at 1 0 1; at 1 1 1; "
            + "when 1 1 2 3; when 0 1 2 2; ticks 1");
        // 0 and 1 by the HOUR; behind them 2 to 1, to 2 (both by 0), to 3 (by 1)
        x.due("state 2", 3).due("why 2", 2003);
        Bench.Run y = bench.run().does("thing 0 0 0; thing 0 0 0; thing 0 0 0; when 1 1 2 3; when 0 1 1 1; when 0 1 2 1; "
            + "at 1 0 1; ticks 1");
        // what 1 wakes comes behind what 0 woke
        y.due("state 2", 3).due("why 2", 2000);
        Bench.Run z = bench.run().does("thing 0 0 0; thing 0 0 0; thing 0 0 0; when 0 1 1 1; when 1 1 2 1; at 1 0 1")
            .rules("x1,1,1,1;");
        z.does("ticks 1").due(0, "state 1", "state 2").due("count 5", 1);
    }

    private static void tick() {
        bench.terms("23, 30", "TICK: COSTS of the HOUR are added (STATE times COST of each THING), HOUR goes on by 1, "
            + "those standing at that HOUR of the day fire, by numbers, then what they wake.");
        Bench.Run x = bench.run().does("thing 0 0 100; thing 0 0 0; thing 0 0 7; at 1 0 3; at 1 2 1; at 1 2 2; at 0 1 3");
        x.due("ticks 1", 1).due(0, "cost 0", "cost 2", "cost -1").due("state 2", 2).due("why 2", 2002);
        x.due("ticks 1", 2).due("cost 0", 300).due("cost 1", 0).due("cost 2", 14).due("cost -1", 314);
        x.due("ticks 22", 24).due("state 1", 3).due("ticks 1", 25).due("cost 0", 7200).due("cost 1", 0)
            .due("cost 2", 24 * 14);
    }

    private static void quarrel() {
        bench.terms("24", "QUARREL: the first two (by the first, then the other) standing for the same with unlike STATES of one THING.");
        Bench.Run x = bench.run().refused("quarrel", NONE).does("thing 0 0 0; thing 0 0 0; thing 0 0 0; at 1 0 1")
            .refused("quarrel", NONE);
        x.does("at 2 0 2; at 1 1 2; when 1 1 0 0; at 1 0 1").refused("quarrel", NONE).does("when 2 1 1 1; when 2 1 1 0")
            .due("quarrel", 56);
        x.does("at 1 0 0").due("quarrel", 7);
        Bench.Run y = bench.run().does("thing 0 0 0; when 0 1 0 2; when 0 1 0 3; when 0 1 0 0").due("quarrel", 1);
        Bench.Run z = bench.run().does("thing 0 0 0; thing 0 0 0; at 5 0 2; when 0 1 0 2; when 1 1 0 1; when 0 2 0 1; "
            + "at 5 1 3; at 6 0 1");
        z.refused("quarrel", NONE).does("at 5 0 2; at 6 0 3").due("quarrel", 57);
    }

    private static void wake() {
        bench.terms("25", "WAKE: the lowest number of one that wakes itself by way of others or at once (u, w of one is t, v of the next).");
        Bench.Run x = bench.run().refused("wake", NONE).does("thing 0 0 0; when 0 1 0 2").refused("wake", NONE)
            .does("when 0 2 0 2").due("wake", 1);
        Bench.Run y = bench.run();
        for (int k = 0; k < 8; k++) y.does("thing 0 0 0");
        for (int k = 0; k < 7; k++) y.does("when " + k + " 1 " + (k + 1) + " 1").refused("wake", NONE);
        y.does("when 7 1 0 1").due("wake", 0);
        Bench.Run back = bench.run();
        for (int k = 0; k < 8; k++) back.does("thing 0 0 0");
        for (int k = 7; k > 0; k--) back.does("when " + k + " 1 " + (k + 1) % 8 + " 1").refused("wake", NONE);
        back.does("when 0 1 1 1").due("wake", 0);
        // of two that one wakes, one leads back: the first or the other
        bench.run().does("thing 0 0 0; thing 0 0 0; thing 0 0 0; when 0 1 1 1; when 1 1 0 1; when 1 1 2 1").due("wake", 0);
        bench.run().does("thing 0 0 0; thing 0 0 0; thing 0 0 0; when 0 1 1 1; when 1 1 2 1; when 1 1 0 1").due("wake", 0);
        Bench.Run z = bench.run().does("thing 0 0 0; thing 0 0 0; at 1 0 1; when 0 1 1 1; when 1 1 1 2; when 1 2 1 1")
            .due("wake", 2);
        Bench.Run w = bench.run().does("thing 0 0 0; thing 0 0 0; at 1 0 1; when 0 1 1 1; when 1 2 0 1; when 1 1 0 2; "
            + "when 0 3 1 1").refused("wake", NONE);
    }

    private static void foreseen() {
        bench.terms("26", "SHOW: the fewest of those standing at an HOUR that, fired one behind the other in some order from STATES as they are "
            + "(with all that they wake, nothing HELD back), at some change bring about what an ITEM x, n bars that it does not bar now; none.");
        Bench.Run x = bench.run().refused("show", NONE).does("thing 0 0 0; thing 1 0 0; thing 2 0 0").rules("x0,1,1,1;")
            .refused("show", NONE);
        x.does("at 1 0 1").refused("show", NONE).does("at 1 1 1").due("show", 2).does("when 0 1 1 1").due("show", 1);
        x.due(0, "state 0", "state 1", "count 5");
        // STATES as they are
        Bench.Run y = bench.run().does("thing 0 0 0; thing 1 0 0; at 1 0 1; at 2 1 1").rules("x0,1,1,1;").due("show", 2)
            .does("ticks 1").due("show", 1);
        y.does("ticks 1").due("count 5", 1).due("show", 1);
        // what is barred now does not count, though it comes again
        Bench.Run z = bench.run().does("thing 0 0 0; at 1 0 1; at 2 0 0; ticks 1").rules("x0,1,0,1;").due("barred", 1)
            .refused("show", NONE);
        z.does("ticks 1").due("barred", 0).due("show", 1);
        four();
        onTheWay();
        thirtyOfShow();
    }

    private static void thirtyOfShow() {
        Bench.Run x = bench.run().does("thing 0 0 0; thing 0 0 0; thing 0 0 0; at 1 0 1; at 2 1 1; when 1 1 2 1; "
            + "when 0 1 2 0; when 0 1 0 2; when 0 2 0 1");
        // THING 0 ends at 2 with the thirtieth change of the first; fired behind the other it puts THING 2 to 0 in time
        x.rules("x2,1,0,2;").due("show", 2);
        // one that finds its THING as it wants it is no change: there are thirty without it
        x.does("when 0 1 2 0").due("show", 2).does("ticks 1").due("state 0", 2).due("show", 1).does("ticks 1")
            .due("count 5", 1);
    }

    /** Two lamps are on already: each must go off and on again, to wake what is barred. */
    private static void four() {
        Bench.Run x = bench.run().does("thing 0 0 0; thing 0 0 0; thing 0 0 0; thing 0 0 0; at 1 0 1; at 1 1 1; ticks 1");
        x.does("when 0 1 2 1; when 1 1 3 1; at 2 0 0").rules("x2,1,3,1;").refused("show", NONE).does("at 3 1 0")
            .due("show", 4);
        x.does("ticks 1").due("show", 3).does("ticks 1").due("show", 2);
        // each of them fires once: off and on again would need one of them twice
        Bench.Run y = bench.run().does("thing 0 0 0; thing 0 0 0; when 0 1 1 1; when 1 1 1 2; when 0 2 1 0; at 1 0 1; "
            + "at 2 0 2").rules("x1,3,0,0;");
        y.refused("show", NONE).does("when 1 2 1 3").due("show", 1);
    }

    private static void onTheWay() {
        Bench.Run x = bench.run().does("thing 0 0 0; thing 0 0 0; at 1 0 1; when 0 1 1 3; when 1 3 1 0").rules("x1,3,0,1;")
            .due("show", 1);
        // nothing is HELD back on the way to what is barred
        Bench.Run y = bench.run().does("thing 0 0 0; at 1 0 1; when 0 1 0 2; when 0 2 0 3").rules("x0,3,0,3;")
            .due("show", 1);
        // ones that are woken by a change are no firings of their own
        Bench.Run z = bench.run().does("thing 0 0 0; thing 1 0 0; when 0 1 1 1").rules("n1,1;").refused("show", NONE)
            .does("at 0 0 1").due("show", 1);
        z.does("go 0 1").refused("show", NONE);
        // all eight at an HOUR, and none comes to it
        Bench.Run w = bench.run().does("thing 0 0 0; thing 0 0 0; thing 0 0 0");
        for (int k = 0; k < 8; k++) w.does("at " + k + " " + k / 4 + " " + k % 4);
        w.rules("x0,3,2,1;").refused("show", NONE).rules("x0,3,1,3;").due("show", 2);
    }

    // ---- 5: the log, habits

    private static void log() {
        sixty();
        daysOfHabits();
        howOften();
        toldAs();
        kept();
        forgotten();
        why();
    }

    private static void sixty() {
        bench.terms("19, 32", "LOG: of each wish DONE: who, DAY, HOUR of the day, each THING MEANT and its STATE (60 at most: the oldest goes).");
        Bench.Run x = bench.speakers().does("thing 0 0 0").due("count 7", 0).wish(1, "34", 1).due("count 7", 1);
        for (int k = 2; k <= 60; k++) x.wish(0, k % 2 == 0 ? "14" : "24", 1);
        x.due("count 7", 60).due("habits 1 1 -1", 3).wish(0, "24", 1).due("count 7", 60).due("habits 1 1 -1", 2);
        x.due("forget 1", 0).due("forget 0", 60).due("count 7", 0);
        Bench.Run z = bench.speakers().does("thing 0 0 0; thing 1 0 0").wish(1, "34", 1).does("ticks 1").wish(1, "249", 2)
            .does("ticks 24").wish(0, "14", 1);
        for (int k = 3; k < 60; k++) z.wish(0, "04", k == 3 ? 1 : 0);
        // the first goes; those behind it keep who, DAY, HOUR, THING and STATE
        z.due("count 7", 60).due("habits 2 1 -1", 4).due("habits 2 1 0", 3).wish(0, "04", 0).due("count 7", 60)
            .due("habits 2 1 -1", 3);
        z.due("habits 2 1 0", 100).due("habits 2 1 1", 101).due("habits 2 1 2", 112).due("habits 1 1 -1", 2)
            .due("forget 1", 1);
        Bench.Run y = bench.speakers();
        for (int k = 0; k < 10; k++) y.does("thing 0 0 0");
        for (int k = 0; k < 5; k++) y.wish(k == 0 ? 1 : 0, k % 2 == 0 ? "14" : "24", 1023);
        y.due("count 7", 50).wish(0, "34", 1023).due("count 7", 60).wish(0, "34", 0);
        y.due("count 7", 60).due("forget 1", 0).due("forget 0", 60);
    }

    private static void daysOfHabits() {
        bench.terms("27", "HABITS over d DAYS (1 to 14: this DAY and d - 1 ahead of it)");
        Bench.Run x = bench.speakers().does("thing 0 0 0").wish(0, "14", 1)
            .refused(BAD, "habits 0 1 -1", "habits 15 1 -1", "habits -1 1 -1");
        for (int day = 0; day <= 14; day++) {
            for (int d = 1; d <= 14; d++) x.due("habits " + d + " 1 -1", d > day ? 1 : 0);
            x.does("ticks 23").due("habits " + Math.min(14, day + 1) + " 1 -1", day < 14 ? 1 : 0).does("ticks 1");
        }
    }

    private static void howOften() {
        bench.terms("27", "by m (1 to d): HOUR of the day, THING, STATE that stand in the LOG on m unlike DAYS of these at least;");
        Bench.Run x = bench.speakers().does("thing 0 0 0");
        for (int day = 0; day < 14; day++) x.does("hear 0 100 2 0x14; done; hear 1 100 2 0x14; done; ticks 24");
        x.does("hear 0 100 2 0x14; done").due("habits 14 14 -1", 1).due("habits 14 14 0", 1)
            .refused(BAD, "habits 14 15 -1", "habits 14 0 -1");
        for (int d = 1; d <= 14; d++) {
            x.refused(BAD, "habits " + d + " 0 -1", "habits " + d + " " + (d + 1) + " -1")
                .due("habits " + d + " " + d + " -1", 1);
        }
        Bench.Run y = bench.speakers().does("thing 0 0 0").wish(0, "14", 1).wish(0, "14", 0).due("habits 2 1 -1", 1)
            .due("habits 2 2 -1", 0);
        y.does("ticks 25").wish(0, "14", 0).due("habits 2 2 -1", 0).does("ticks 23").wish(0, "24", 1)
            .due("habits 3 2 -1", 0);
        y.wish(0, "14", 1).due("habits 3 2 -1", 1).due("habits 2 2 -1", 0).due("habits 3 3 -1", 0);
    }

    private static void toldAs() {
        bench.terms("27", "told as 100 times the HOUR, 10 times the THING and the STATE, rising.");
        Bench.Run x = bench.speakers();
        for (int k = 0; k < 9; k++) x.does("thing 1 1 0");
        x.does("thing 0 0 0; ticks 23").wish(0, "34", 512).wish(0, "14", 512).does("ticks 1").wish(0, "04", 512)
            .wish(0, "15" + "9", 511);
        x.due("habits 2 1 -1", 12).due("habits 2 1 9", 90).due("habits 2 1 10", 2391).due("habits 2 1 11", 2393)
            .refused("habits 2 1 12", NONE);
        for (int k = 0; k < 9; k++) x.due("habits 2 1 " + k, 10 * k + 1);
    }

    private static void kept() {
        bench.terms("28", "KEPT is what is told so (a HABIT or not) as one standing at that HOUR.");
        Bench.Run x = bench.run().refused(BAD, "keepHabit 0");
        for (int k = 0; k < 10; k++) x.does("thing 0 " + (k == 9 ? 0 : 1) + " 0");
        x.refused(BAD, "keepHabit -1", "keepHabit 2", "keepHabit 2394", "keepHabit 2400", "keepHabit 82", "keepHabit 94",
            "keepHabit 9");
        x.refused(BAD, "keepHabit " + Integer.MIN_VALUE, "keepHabit " + Integer.MAX_VALUE);
        x.due("habits 14 1 -1", 0).due("keepHabit 1", 0).due("keepHabit 2393", 1).due("keepHabit 0", 2).due("quarrel", 2);
        x.does("ticks 22").due("state 9", 0).does("ticks 1").due("state 9", 3).due("why 9", 2001).due("state 0", 0);
        x.does("ticks 1").due("state 0", 0).due("why 0", 2002);
    }

    private static void forgotten() {
        bench.terms("29", "FORGOTTEN of one of FOLK: all of its LOG goes.");
        Bench.Run x = bench.speakers().does("thing 0 0 0; go 5 0").rules(ALL_MAY + "r5,4,5,0,23;").due("forget 0", 0)
            .due("count 9", 0);
        x.wish(0, "14", 1).wish(5, "24", 1).wish(0, "34", 1).wish(1, "04", 1).due("forget 0", 2).due("count 7", 2)
            .due("forget 0", 0);
        x.due("habits 1 1 -1", 2).due("habits 1 1 0", 0).due("habits 1 1 1", 2).due("forget 5", 1).due("forget 1", 1)
            .due("count 7", 0);
        x.due("count 9", 4).due("count 6", 4).due("why 0", 1003).due("undo", 1);
        Bench.Run y = bench.speakers().does("thing 0 0 0; thing 1 0 0").wish(1, "34", 1).does("ticks 1").wish(0, "249", 2)
            .does("ticks 24").wish(0, "14", 1);
        // what is left keeps its DAY, HOUR, THING and STATE
        y.due("forget 1", 1).due("habits 2 1 -1", 2).due("habits 2 1 0", 101).due("habits 2 1 1", 112)
            .due("habits 1 1 -1", 1).due("forget 0", 2);
    }

    private static void why() {
        bench.terms("31", "WHY a THING has its STATE: 1000 and the wish DONE, 2000 and the number of one standing, 3000 and the wish taken BACK; none at first.");
        Bench.Run x = bench.speakers().does("thing 0 0 0; thing 1 0 0; at 1 0 1; when 0 3 1 1").due(NONE, "why 0", "why 1")
            .wish(0, "24", 1);
        x.due("why 0", 1000).due("why 1", NONE).wish(0, "34", 1).due("why 0", 1001).due("why 1", 2001).does("ticks 1")
            .due("why 0", 2000);
        x.wish(0, "34", 1).due("why 0", 1002).due("undo", 1).due("why 0", 3002).due("undo", 0).due("why 0", 3002)
            .due("why 1", 2001);
    }

    // ---- refusals

    private static void refusals() {
        bench.terms("2 to 32", "BAD: a number is none that is told. NO: not as things stand. NONE: there is none. FULL. "
            + "Of several the first; nothing changes then.");
        Bench.Run x = bench.speakers();
        for (int k = 0; k < 10; k++) x.does("thing 0 0 0");
        x.does("word 0 0 1 15; word 0 0 1 15").refused(FULL, "thing 0 0 0", "word 0 0 1 0")
            .refused(BAD, "thing 5 0 0", "word 4 0 1 0");
        for (int k = 0; k < 8; k++) x.does("at 1 0 1");
        x.refused(FULL, "at 0 0 0", "when 0 0 0 0", "keepHabit 0").refused(BAD, "at 24 0 0", "when 10 0 0 0", "keepHabit 4");
        for (int k = 0; k < 22; k++) x.does("write 8 0");
        x.refused(FULL, "write 1 0").refused(BAD, "write 9 0", "write 0 0").refused("force", NO);
        x.refused(NO, "hear 5 100 1 0", "answer 0 0", "open", "ask", "done", "undo")
            .refused(BAD, "hear 5 101 1 0", "hear 5 100 9 0", "answer 3 0");
        x.refused(NONE, "reading 0 0", "habits 1 1 0", "quarrel", "wake", "show", "why 0")
            .refused(BAD, "reading 0 5", "reading -1 0");
        x.refused(BAD, "habits 0 1 0", "habits 1 1 -2", "why 10", "rule 3 0", "may 7 0 0", "cost -2", "count 10", "ticks 0",
            "ticks 101");
        String[] numbers = {"-2147483648", "-2147483647", "2147483646", "2147483647"};
        for (String n : numbers) {
            x.refused(BAD, "thing " + n + " 0 0", "state " + n, "doubt " + n + " 0 0", "word 0 0 " + n + " 0",
                "rule " + n + " 0", "rule 0 " + n);
            x.refused(BAD, "write " + n + " 0", "may 0 " + n + " 0", "hear 0 0 " + n + " 0", "reading 0 " + n,
                "answer " + n + " 0", "answer 0 " + n);
            x.refused(BAD, "when 0 " + n + " 0 0", "at " + n + " 0 0", "ticks " + n, "habits " + n + " 1 0",
                "habits 1 " + n + " 0", "keepHabit " + n);
            x.refused(BAD, "forget " + n, "cost " + n, "why " + n, "count " + n).refused("go 0 " + n, NOT_GONE)
                .refused("go " + n + " 0", NOT_GONE);
        }
        x.refused(NONE, "reading 2147483647 0", "habits 1 1 2147483647")
            .refused(BAD, "reading -2147483648 0", "habits 1 1 -2147483648");
    }
}
