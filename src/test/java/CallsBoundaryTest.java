/** Promises 1 to 32, each sentence of them: at its boundaries, on either side, and refused calls that change nothing. */
public final class CallsBoundaryTest {
    private static final int BAD = Bench.BAD, NO = Bench.NO, FULL = Bench.FULL, NONE = Bench.NONE, HARM = Bench.HARM;
    private static final int NOT_GONE = Bench.NOT_GONE;
    private static final String ALL_MAY = "r0,4,5,0,23;r1,4,5,0,23;";
    private static final Bench bench = new Bench();

    public static void main(String[] args) {
        house();
        rules();
        hearing();
        wishes();
        standing();
        habitsAndCosts();
        for (int promise = 1; promise <= 32; promise++) bench.mustBeQuoted(promise, "");
        bench.end();
    }

    // ---- the house

    private static void house() {
        newObject();
        thing();
        go();
        state();
        doubt();
        word();
        rule();
    }

    private static void newObject() {
        bench.promise(1, "As told; an empty TEXT is IN FORCE.");
        Bench.Run x = bench.run();
        for (int what = 0; what <= 9; what++) x.due("count " + what, 0);
        x.due("fault", NONE).due("force", 0).due("wipe", 0).due("barred", 0).due("cost -1", 0).due("habits 14 1 -1", 0);
        x.refused(NO, "open", "ask", "done", "undo", "answer 2 -1").refused("answer 0 0", BAD).refused("reading 0 0", NONE);
        x.refused(NONE, "quarrel", "wake", "show").refused(BAD, "state 0", "why 0", "cost 0", "may 0 0 0");
        x.due("rule 0 20", 20).due("rule 1 3", 3).due("rule 2 60", 60);
        for (int f = 0; f < 6; f++) x.due("go " + f + " 0", -1);
        x.does("thing 0 0 0").due("may 0 0 0", 0).due("state 0", 0).due("why 0", NONE).due("cost 0", 0);
    }

    private static void thing() {
        bench.promise(2, "A THING: its number.");
        Bench.Run x = bench.run().due("thing 0 0 0", 0).due("thing 0 0 0", 1).due("thing 4 3 100", 2).due("count 0", 3);
        bench.promise(2, "BAD;");
        x.refused(BAD, "thing -1 0 0", "thing 5 0 0", "thing 0 -1 0", "thing 0 4 0", "thing 0 0 -1", "thing 0 0 101");
        x.due("thing 0 3 0", 3).due("thing 4 0 0", 4).due("thing 0 0 100", 5);
        bench.promise(2, "FULL: 10.");
        for (int k = 6; k < 10; k++) x.due("thing 0 0 0", k);
        x.refused("thing 0 0 0", FULL).refused("thing 4 3 100", FULL).due("count 0", 10).due("state 9", 0)
            .refused("state 10", BAD);
    }

    private static void go() {
        bench.promise(3, "One of FOLK goes to a ROOM (-1: out): where it was.");
        Bench.Run x = bench.run().due("go 0 0", -1).due("go 0 4", 0).due("go 0 -1", 4).due("go 0 -1", -1).due("go 5 4", -1)
            .due("go 5 4", 4);
        bench.promise(3, "BAD answers -100.");
        x.refused(NOT_GONE, "go -1 0", "go 6 0", "go 5 -2", "go 5 5").due("go 5 0", 4).due("go 0 0", -1);
    }

    private static void state() {
        bench.promise(4, "STATE of a THING.");
        Bench.Run x = bench.speakers().refused("state 0", BAD).does("thing 0 0 0").due("state 0", 0);
        for (int v = 3; v >= 0; v--) x.wish(0, v + "4", 1).due("state 0", v);
        for (int k = 1; k < 9; k++) x.does("thing 1 1 0");
        x.refused("state 9", BAD).does("thing 2 0 0").wish(0, "34A", 512).due("state 9", 3).due("state 8", 0)
            .due("state 0", 0);
        bench.promise(4, "BAD.");
        x.refused(BAD, "state -1", "state 10");
    }

    private static void doubt() {
        bench.promise(5, "DOUBT of a SOUND (told) for another one (heard): what it was.");
        Bench.Run x = bench.run().due("doubt 0 15 0", 9).due("doubt 0 15 9", 0).due("doubt 15 0 4", 9)
            .due("doubt 0 15 9", 9);
        bench.promise(5, "BAD (alike ones, too).");
        x.refused(BAD, "doubt -1 0 0", "doubt 16 0 0", "doubt 0 -1 0", "doubt 0 16 0", "doubt 15 0 -1", "doubt 15 0 10");
        for (int k = 0; k < 16; k++) x.refused("doubt " + k + " " + k + " " + k % 10, BAD);
        x.due("doubt 15 0 5", 4).due("doubt 15 14 0", 9).due("doubt 14 15 0", 9);
        Bench.Run y = bench.run().does("go 0 0; word 0 0 1 1; word 1 0 1 2").refused("doubt 1 1 9", BAD).hear(0, "12", 1)
            .due("reading 0 0", 0);
    }

    private static void word() {
        bench.promise(6, "A WORD of n SOUNDS (1 to 4), each four bits of v (0 to 16 to the n less 1), the first the highest: its number.");
        Bench.Run x = bench.run().does("go 0 0; rule 0 0").due("word 0 0 1 0", 0).due("word 0 1 1 15", 1)
            .due("word 1 0 4 0x1234", 2);
        x.due("word 1 1 4 65535", 3).due("word 1 2 3 0x001", 4).due("word 1 3 2 0x10", 5);
        x.hear(0, "01234", 1).due("reading 0 2", 2).hear(0, "04321", 0).hear(0, "FFFFF", 1).due("reading 0 2", 3)
            .due("reading 0 1", 1);
        x.hear(0, "0001", 1).due("reading 0 2", 4).hear(0, "01", 0).hear(0, "F10", 1).due("reading 0 2", 5)
            .hear(0, "F01", 0);
        bench.promise(6, "BAD;");
        x.refused(BAD, "word 0 0 0 0", "word 0 0 5 0", "word 0 0 1 16", "word 0 0 2 256", "word 0 0 3 4096",
            "word 0 0 4 65536");
        x.refused(BAD, "word 0 0 1 -1", "word 0 0 4 -1", "word -1 0 1 0", "word 4 0 1 0", "word 0 -1 1 0", "word 0 4 1 0");
        x.refused(BAD, "word 1 -1 1 0", "word 1 4 1 0", "word 2 -1 1 0", "word 2 5 1 0", "word 3 -1 1 0", "word 3 1 1 0");
        x.due("word 0 3 2 255", 6).due("word 1 3 3 4095", 7).due("word 2 4 1 0", 8).due("word 3 0 1 0", 9);
        bench.promise(6, "FULL: 16.");
        for (int k = 10; k < 16; k++) x.due("word 2 0 1 7", k);
        x.refused("word 2 0 1 7", FULL).refused("word 0 0 1 0", FULL).due("count 1", 16).refused("word 0 0 1 16", BAD);
    }

    private static void rule() {
        bench.promise(7, "LIMIT (what = 0), MARGIN (1), SURE (2; 0 to 100): what it was.");
        Bench.Run x = bench.run().due("rule 0 50", 20).due("rule 1 20", 3).due("rule 2 100", 60);
        x.due("rule 0 0", 50).due("rule 1 0", 20).due("rule 2 0", 100).due("rule 0 1", 0).due("rule 1 1", 0)
            .due("rule 2 1", 0);
        bench.promise(7, "BAD.");
        x.refused(BAD, "rule -1 0", "rule 3 0", "rule 0 -1", "rule 0 51", "rule 1 -1", "rule 1 21", "rule 2 -1",
            "rule 2 101");
        x.due("rule 0 20", 1).due("rule 1 3", 1).due("rule 2 60", 1);
    }

    // ---- rules

    private static void rules() {
        write();
        wipe();
        fault();
        force();
        may();
        barred();
    }

    private static void write() {
        bench.promise(8, "n bytes (1 to 8) of v, the highest first, come behind THE TEXT: how long it is.");
        Bench.Run x = bench.run().due("write 1 0x6E", 1).due("write 4 0x302C313B", 5).due("force", 1)
            .due("write 8 0x6E312C313B6E322C", 13);
        x.due("fault", 10).due("write 2 0x313B", 15).due("force", 3).due("write 5 0x7AFFFF6E302C313B", 20);
        x.due("fault", NONE).due("force", 4).does("wipe").due("write 2 0x7AFFFF6E30", 2).due("write 3 0x2C313B", 5)
            .due("force", 1);
        Bench.Run y = bench.run();
        for (int n = 1; n <= 8; n++) y.due("write " + n + " -1", n * (n + 1) / 2);
        bench.promise(8, "BAD;");
        y.refused(BAD, "write 0 0", "write 9 0", "write -1 0");
        bench.promise(8, "FULL.");
        for (int k = 0; k < 20; k++) y.due("write 8 0", 44 + 8 * k);
        y.due("count 2", 196).refused(FULL, "write 5 0", "write 8 0").due("write 3 0", 199).refused("write 2 0", FULL);
        y.due("write 1 0", 200).refused("write 1 0", FULL).refused("write 9 0", BAD).due("wipe", 200).due("write 8 0", 8);
    }

    private static void wipe() {
        bench.promise(9, "THE TEXT is empty: how long it was.");
        Bench.Run x = bench.run().due("wipe", 0).text("n").due("wipe", 1).due("count 2", 0).due("fault", NONE)
            .due("wipe", 0);
        x.rules("n0,1;x0,1,1,1;").due("wipe", 14).due("count 3", 2).due("fault", NONE).text("n0,1").due("fault", 0);
        Bench.Run y = bench.run();
        for (int k = 0; k < 25; k++) y.does("write 8 0");
        y.due("wipe", 200).due("count 2", 0).due("write 8 0", 8);
    }

    private static void fault() {
        bench.promise(10, "FAULT. NONE.");
        Bench.Run x = bench.run().refused("fault", NONE).text("n0,1;").refused("fault", NONE).text("n9").due("fault", 5);
        x.text(",3").due("fault", 5).text(";").refused("fault", NONE).text(";").due("fault", 10);
        Bench.Run y = bench.run().text("n0,1;".repeat(38) + "x0,1,0,0;").refused("fault", NONE).text("q").due("fault", 199);
    }

    private static void force() {
        bench.promise(11, "IN FORCE: how many ITEMS.");
        Bench.Run x = bench.speakers().does("wipe").due("force", 0).due("count 3", 0).text("n0,1;").due("force", 1)
            .text("n0,1;").due("force", 2);
        x.does("wipe");
        for (int k = 0; k < 8; k++) x.text("n0,1;n0,1;n0,1;n0,1;n0,1;");
        x.due("force", 40).due("count 3", 40).does("thing 1 0 0; at 1 0 1; ticks 1").due("count 5", 1);
        x.due("wipe", 200).due("force", 0).does("ticks 24").due("state 0", 1).due("barred", 0);
        for (int k = 0; k < 8; k++) x.text("n0,1;n0,1;n0,1;n0,1;n0,1;");
        x.due("force", 40).due("barred", 40);
        bench.promise(11, "NO: a FAULT.");
        x.does("wipe").text("n0,1;n0,4;").refused("force", NO).due("barred", 40).due("count 3", 40);
        x.does("wipe").text("n0,1").refused("force", NO).text(";").due("force", 1).due("barred", 1);
    }

    private static void may() {
        bench.promise(12, "1: one of FOLK (6: a guest) MAY turn a THING at an HOUR of the day; 0.");
        Bench.Run x = bench.run().does("thing 4 3 0").rules("r0,3,4,1,22;r5,4,4,0,0;r6,3,5,23,23;");
        x.due(0, "may 0 0 0", "may 0 0 23", "may 5 0 1", "may 6 0 22", "may 1 0 1", "may 4 0 0", "may 5 0 23", "may 6 0 0");
        x.due(1, "may 0 0 1", "may 0 0 22", "may 5 0 0", "may 6 0 23");
        bench.promise(12, "BAD.");
        x.refused(BAD, "may -1 0 0", "may 7 0 0", "may 0 -1 0", "may 0 1 0", "may 0 10 0", "may 0 0 -1", "may 0 0 24");
        for (int k = 1; k < 10; k++) x.refused("may 0 " + k + " 1", BAD).does("thing 4 3 0").due("may 0 " + k + " 1", 1);
        x.refused("may 0 10 1", BAD);
    }

    private static void barred() {
        bench.promise(13, "How many ITEMS x, n bar the states as they are.");
        Bench.Run x = bench.speakers().does("thing 0 0 0; thing 1 0 0").due("barred", 0).wish(0, "24", 1).due("barred", 0);
        x.rules("x0,2,1,0;x0,2,1,0;x0,3,1,0;x0,2,1,1;n0,2;r0,4,5,0,23;").due("barred", 2).does("go 0 1").due("barred", 2);
        x.does("go 1 1").due("barred", 3).does("go 5 0").due("barred", 2).rules("").due("barred", 0);
    }

    // ---- wishes: what is heard

    private static void hearing() {
        hear();
        reading();
        open();
        ask();
        answer();
    }

    private static void hear() {
        bench.promise(14, "HEARD: n SOUNDS, four bits each of v (0 to 16 to the n less 1), the first the highest: how many READINGS.");
        Bench.Run x = bench.run().does("go 0 0; rule 0 0; word 0 0 1 1; word 1 0 1 2; word 0 1 4 0xFFFF; "
            + "word 1 1 4 0xFFFE; word 0 2 1 0");
        x.hear(0, "12", 1).hear(0, "21", 0).hear(0, "02", 1).due("reading 0 1", 4).hear(0, "2", 0)
            .due("hear 0 0 8 0xFFFFFFFE", 1);
        x.due("hear 0 100 8 0xFFFFFFFF", 0).due("hear 0 100 8 0", 0).due("hear 0 100 1 0", 0).due("hear 0 100 1 15", 0);
        bench.promise(14, "BAD;");
        x.refused(BAD, "hear -1 100 1 0", "hear 6 100 1 0", "hear 0 -1 1 0", "hear 0 101 1 0", "hear 0 100 0 0",
            "hear 0 100 9 0");
        x.refused(BAD, "hear 0 100 1 -1", "hear 0 100 1 16", "hear 0 100 7 0x10000000", "hear 0 100 8 0x100000000",
            "hear 0 100 8 -1");
        x.due("open", 0);
        bench.promise(14, "NO: out.");
        x.refused("hear 5 100 1 0", NO).does("go 5 4").due("hear 5 100 2 0x12", 1).does("go 5 -1")
            .refused("hear 5 100 2 0x12", NO);
        x.refused(BAD, "hear 5 100 2 256", "hear 5 101 2 0x12").due("reading 0 0", 0);
    }

    private static void reading() {
        bench.promise(15, "Of READING i: PRICE (what = 0), WORDS (1 to 3; the third NONE), THINGS MEANT as bits (4).");
        Bench.Run x = bench.speakers();
        for (int k = 0; k < 10; k++) x.does("thing " + (k < 9 ? 0 : 4) + " 0 0");
        x.hear(0, "34", 1).due("reading 0 0", 0).due("reading 0 1", 3).due("reading 0 2", 4).due("reading 0 3", NONE)
            .due("reading 0 4", 511);
        x.hear(0, "04C", 1).due("reading 0 0", 0).due("reading 0 1", 0).due("reading 0 2", 4).due("reading 0 3", 12)
            .due("reading 0 4", 512);
        x.hear(0, "0D", 1).due("reading 0 2", 13).due("reading 0 3", NONE).due("reading 0 4", 0);
        bench.promise(15, "NONE: not so many, nothing is HEARD;");
        x.refused(NONE, "reading 1 0", "reading 1 4", "reading 11 0", "reading 12 0", "reading 2147483647 0");
        x.does("rule 0 50; hear 0 100 2 0x34").due("reading 11 1", 3).refused("reading 12 1", NONE);
        x.hear(0, "14", 12).does("rule 0 0; hear 0 100 2 0x14").refused("reading 1 0", NONE).due("done", 511)
            .refused("reading 0 0", NONE);
        bench.run().refused(NONE, "reading 0 0", "reading 0 4", "reading 1 0");
        bench.promise(15, "BAD.");
        x.refused(BAD, "reading 0 -1", "reading 0 5", "reading -1 0").hear(0, "14", 1)
            .refused(BAD, "reading 0 -1", "reading 0 5", "reading -1 0");
    }

    private static void open() {
        bench.promise(16, "How many OPEN READINGS do what is unlike: 0 none is OPEN, 1 it is TAKEN, more: how many unlike.");
        Bench.Run x = bench.run().does("go 0 0; rule 1 6; word 0 1 1 1; word 1 0 1 4; word 2 0 1 8; word 2 1 1 9; "
            + "word 2 2 1 10");
        x.hear(0, "14", 4).due("open", 0).does("thing 0 0 0").due("open", 0).hear(0, "14", 4).due("open", 1);
        x.does("thing 1 0 0").due("open", 1).hear(0, "14", 4).due("open", 2).does("thing 2 0 0").hear(0, "14", 4)
            .due("open", 3);
        x.due("answer 2 4", 1).due("open", 1).hear(0, "FFFFFFFF", 0).due("open", 0);
        Bench.Run y = bench.run().does("go 0 0; thing 0 0 0; word 0 0 1 1; word 0 1 1 1; word 0 2 1 1; word 0 3 1 1; "
            + "word 1 0 1 4; word 1 0 1 4");
        y.does("word 1 0 1 4").hear(0, "14", 12).due("open", 4);
        bench.promise(16, "NO: nothing is HEARD.");
        bench.run().refused("open", NO);
        bench.speakers().does("thing 0 0 0").wish(0, "14", 1).refused("open", NO).hear(0, "14", 1).due("open", 1);
    }

    private static void ask() {
        bench.promise(17, "The part to be ASKED.");
        Bench.Run x = bench.run().does("go 0 0; thing 0 0 0; word 0 1 1 1; word 0 2 1 1; word 1 0 1 4").hear(0, "14", 2)
            .due("ask", 0);
        Bench.Run y = bench.run().does("go 0 0; thing 0 0 0; thing 0 1 0; word 0 1 1 1; word 1 0 1 4; word 1 1 1 4")
            .hear(0, "14", 2).due("ask", 1);
        Bench.Run z = bench.run().does("go 0 0; thing 0 0 0; thing 1 0 0; word 0 1 1 1; word 1 0 1 4; word 2 1 1 8; "
            + "rule 1 6").hear(0, "14", 2).due("ask", 2);
        bench.promise(17, "NONE: it is TAKEN, or none is OPEN;");
        x.due("answer 0 1", 1).refused("ask", NONE).hear(0, "FFFFFFFF", 0).refused("ask", NONE);
        y.due("answer 1 2", 1).refused("ask", NONE);
        z.due("answer 2 -1", 1).refused("ask", NONE).does("rule 1 5").hear(0, "14", 2).refused("ask", NONE);
        bench.promise(17, "NO.");
        bench.run().refused("ask", NO);
        bench.speakers().does("thing 0 0 0").wish(0, "14", 1).refused("ask", NO).hear(0, "14", 1).refused("ask", NONE);
    }

    private static void answer() {
        bench.promise(18, "ANSWER to the part (0 to 2): how many READINGS are OPEN then.");
        Bench.Run x = bench.run().does("go 0 0; thing 0 0 0; thing 0 3 0; thing 1 0 0; thing 1 3 0; word 0 0 1 1; "
            + "word 0 1 1 1; word 1 0 1 4; word 1 3 1 4");
        x.does("word 2 1 1 8; rule 1 6").hear(0, "14", 8).due("answer 0 1", 4).due("answer 1 2", 2).due("answer 2 4", 1)
            .due("open", 1);
        x.hear(0, "14", 8).due("answer 2 -1", 4).due("answer 2 -1", 4).due("answer 1 3", 2).due("answer 0 0", 1);
        bench.promise(18, "BAD;");
        x.refused(BAD, "answer -1 0", "answer 3 0", "answer 0 -1", "answer 1 -1", "answer 2 -2", "answer 0 5", "answer 1 5",
            "answer 2 5", "answer 2 16");
        bench.promise(18, "NO: nothing is HEARD, or none has it.");
        x.hear(0, "14", 8).refused(NO, "answer 0 2", "answer 1 0", "answer 2 0", "answer 0 4", "answer 2 3")
            .due("answer 0 0", 4).refused("answer 0 1", NO);
        x.due("answer 2 4", 2).refused("answer 2 -1", NO).due("open", 1).hear(0, "FFFFFFFF", 0)
            .refused(NO, "answer 0 0", "answer 2 -1");
        bench.speakers().refused(NO, "answer 0 0", "answer 2 -1").does("thing 0 0 0").wish(0, "14", 1)
            .refused(NO, "answer 0 1", "answer 2 -1");
    }

    // ---- wishes: done and taken back

    private static void wishes() {
        done();
        doneNo();
        doneFull();
        doneHarm();
        undo();
    }

    private static void done() {
        bench.promise(19, "DONE: THINGS CHANGED by the wish itself as bits.");
        Bench.Run x = bench.speakers();
        for (int k = 0; k < 9; k++) x.does("thing 0 0 0");
        x.does("thing 4 0 0; when 0 1 9 2").wish(0, "14", 511).due("state 9", 2).wish(0, "14", 0).wish(0, "14C", 512)
            .wish(0, "24C", 512);
        x.does("at 1 8 2; ticks 1").wish(0, "24", 255).wish(0, "34", 511).due("count 6", 6);
    }

    private static void doneNo() {
        bench.promise(19, "NO: nothing is HEARD, nothing TAKEN, it MAY not;");
        bench.speakers().does("thing 0 0 0").refused("done", NO).wish(0, "14", 1).refused("done", NO);
        Bench.Run x = bench.speakers().does("thing 0 0 0; thing 1 0 0; rule 0 6; rule 1 6").hear(0, "14", 6).due("open", 2)
            .refused("done", NO);
        x.hear(0, "FFFFFFFF", 0).refused("done", NO).hear(0, "159", 2).due("open", 0).refused("done", NO);
        x.does("rule 1 0").hear(0, "14", 6).rules("r0,0,1,0,23;r1,0,0,0,23;r0,0,0,1,23;r0,1,0,0,23;").refused("done", NO);
        x.does("hear 1 60 2 0x14").due("done", 1).does("hear 1 59 2 0x04").refused("done", NO);
        x.does("hear 0 100 2 0x04").refused("done", NO).does("ticks 1").due("done", 1);
    }

    private static void doneFull() {
        bench.promise(19, "FULL: 200;");
        Bench.Run x = bench.run().does("thing 0 0 0; word 0 0 1 0; word 0 1 1 1; word 1 0 1 4; go 0 0; rule 0 0")
            .rules("r0,4,5,0,23;");
        for (int k = 0; k < 199; k++) x.wish(0, "14", k == 0 ? 1 : 0);
        x.due("count 6", 199).wish(0, "04", 1).due("count 6", 200).due("why 0", 1199).hear(0, "14", 1).refused("done", FULL);
        x.due("count 6", 200).due("undo", 1).due("why 0", 3199).due("undo", 0).refused("done", FULL).due("open", 1);
    }

    private static void doneHarm() {
        bench.promise(19, "HARM.");
        Bench.Run x = bench.speakers().does("thing 0 0 0; thing 0 1 0; when 1 1 0 0").wish(0, "24", 1)
            .rules(ALL_MAY + "x1,1,0,2;");
        x.hear(0, "15", 1).refused("done", HARM).due("state 1", 0).due("count 6", 1).due("count 7", 1).due("count 5", 0);
        x.wish(0, "14", 1).wish(0, "15", 2).due("state 0", 0).due("count 6", 3);
        x.hear(0, "24", 1).refused("done", HARM).rules("x1,1,0,2;").refused("done", NO).rules(ALL_MAY).due("done", 1);
        x.rules(ALL_MAY + "x1,1,0,2;").due("barred", 1).wish(0, "34", 1).due("barred", 1).wish(0, "14", 1).hear(0, "24", 1)
            .refused("done", HARM);
    }

    private static void undo() {
        bench.promise(20, "BACK: THINGS that got their STATES as bits.");
        Bench.Run x = bench.speakers();
        for (int k = 0; k < 10; k++) x.does("thing 0 0 0");
        x.wish(0, "14", 1023).wish(0, "14", 0).does("at 1 9 2; ticks 1").due("undo", 0).due("undo", 511).due("state 9", 2)
            .due("state 8", 0);
        bench.promise(20, "NO: none is left.");
        x.refused("undo", NO).wish(0, "24", 511).due("undo", 511).refused("undo", NO);
        bench.run().refused("undo", NO);
        Bench.Run y = bench.speakers().does("thing 0 0 0").wish(0, "14", 1).wish(0, "24", 1).due("undo", 1).wish(0, "34", 1);
        // the second is BACK, so behind the third comes the first
        y.due("undo", 1).due("why 0", 3002).due("undo", 0).refused("undo", NO).due("count 6", 3);
    }

    // ---- standing

    private static void standing() {
        when();
        at();
        ticks();
        quarrel();
        wake();
        show();
    }

    private static void when() {
        bench.promise(21, "STANDING: when t comes to v, u becomes w: its number.");
        Bench.Run x = bench.run();
        for (int k = 0; k < 10; k++) x.does("thing 0 " + k % 4 + " 0");
        x.due("when 0 3 9 1", 0).due("when 9 1 0 3", 1).due("when 0 0 0 0", 2).due("count 4", 3);
        bench.promise(21, "BAD (STATES that can not be, too);");
        x.refused(BAD, "when -1 0 0 0", "when 10 0 0 0", "when 0 0 -1 0", "when 0 0 10 0", "when 0 -1 0 0", "when 0 0 0 -1");
        x.refused(BAD, "when 0 4 0 0", "when 1 2 0 0", "when 2 3 0 0", "when 3 2 0 0", "when 0 0 0 4", "when 0 0 1 2",
            "when 0 0 2 3", "when 0 0 3 2");
        x.due("when 1 1 2 2", 3).due("when 2 2 3 1", 4).due("when 3 1 1 1", 5).due("count 4", 6);
        bench.run().refused("when 0 0 0 0", BAD).does("thing 0 0 0").refused(BAD, "when 0 0 1 0", "when 1 0 0 0")
            .due("when 0 0 0 0", 0);
        bench.promise(21, "FULL: 8.");
        x.due("when 4 1 5 1", 6).due("when 4 1 5 1", 7).refused("when 4 1 5 1", FULL).refused("when 0 4 0 0", BAD)
            .due("count 4", 8);
    }

    private static void at() {
        bench.promise(22, "STANDING at an HOUR of the day: its number.");
        Bench.Run x = bench.run().does("thing 0 1 0; thing 0 0 0").due("at 0 0 1", 0).due("at 23 1 3", 1).due("at 0 0 1", 2);
        bench.promise(22, "BAD;");
        x.refused(BAD, "at -1 0 0", "at 24 0 0", "at 0 -1 0", "at 0 2 0", "at 0 10 0", "at 0 0 -1", "at 0 0 2", "at 0 1 4")
            .due("count 4", 3);
        bench.promise(22, "FULL.");
        for (int k = 3; k < 8; k++) x.due("at 5 0 0", k);
        x.refused("at 5 0 0", FULL).refused("at 24 0 0", BAD).due("count 4", 8).does("ticks 23").due("state 1", 3)
            .due("state 0", 0);
        x.does("ticks 1").due("state 0", 1);
    }

    private static void ticks() {
        bench.promise(23, "TICKS, n (1 to 100): HOUR.");
        Bench.Run x = bench.run().does("thing 0 0 1; thing 0 0 100; at 1 0 1; at 1 1 2; at 4 1 0").due("ticks 1", 1)
            .due("ticks 100", 101);
        // the one from HOUR 1 on, the other in HOURS 1 to 3 of five DAYS
        x.due("cost 0", 100).due("cost 1", 5 * 3 * 200).due("count 8", 101).due("ticks 99", 200).due("ticks 2", 202);
        bench.promise(23, "BAD.");
        x.refused(BAD, "ticks 0", "ticks -1", "ticks 101").due("count 8", 202).due("ticks 1", 203);
    }

    private static void quarrel() {
        bench.promise(24, "QUARREL: 10 times the one and the other.");
        Bench.Run x = bench.run().does("thing 0 0 0; at 0 0 0; at 1 0 0; at 2 0 0; at 3 0 0; at 4 0 0; at 5 0 0; at 6 0 0; "
            + "at 6 0 1").due("quarrel", 67);
        Bench.Run y = bench.run().does("thing 0 0 0; at 0 0 0; at 0 0 1").due("quarrel", 1).does("at 0 0 2")
            .due("quarrel", 1);
        Bench.Run z = bench.run().does("thing 0 0 0; at 1 0 0; at 0 0 2; at 0 0 2; at 0 0 1; at 1 0 0; at 1 0 3")
            .due("quarrel", 5);
        bench.promise(24, "NONE.");
        bench.run().refused("quarrel", NONE).does("thing 0 0 0; thing 0 0 0; at 1 0 1; when 0 1 0 2; when 0 2 0 1; "
            + "at 1 1 2; at 1 0 1; when 1 1 0 0").refused("quarrel", NONE);
    }

    private static void wake() {
        bench.promise(25, "WAKE.");
        Bench.Run x = bench.run().does("thing 0 0 0; thing 0 0 0; at 0 0 1; when 0 1 1 1; when 1 1 0 2; when 0 2 0 1")
            .due("wake", 1);
        Bench.Run y = bench.run().does("thing 0 0 0; when 0 0 0 1; when 0 0 0 1; when 0 0 0 1; when 0 0 0 1; when 0 0 0 1; "
            + "when 0 0 0 1; when 0 0 0 1");
        bench.promise(25, "NONE.");
        bench.run().refused("wake", NONE);
        y.refused("wake", NONE).does("when 0 3 0 3").due("wake", 7);
        bench.run().does("thing 0 0 0; at 1 0 1; at 2 0 2").refused("wake", NONE);
    }

    private static void show() {
        bench.promise(26, "SHOW.");
        Bench.Run x = bench.run().does("thing 0 0 0; thing 0 0 0; at 0 0 1; at 0 1 1").rules("x0,1,1,1;").due("show", 2)
            .does("at 0 0 2; when 0 2 1 1").due("show", 1);
        bench.promise(26, "NONE.");
        bench.run().refused("show", NONE).rules("n0,1;").refused("show", NONE).does("thing 0 0 0").refused("show", NONE);
        Bench.Run y = bench.run().does("thing 0 0 0; at 0 0 1; at 1 0 2").refused("show", NONE).rules("n0,3;")
            .refused("show", NONE);
        y.rules("n0,2;").due("show", 1).does("go 0 0").refused("show", NONE);
    }

    // ---- habits, costs

    private static void habitsAndCosts() {
        habits();
        keepHabit();
        forget();
        cost();
        why();
        count();
    }

    private static void habits() {
        bench.promise(27, "HABITS: how many (i = -1), the i-th.");
        Bench.Run x = bench.speakers().does("thing 0 0 0").due("habits 1 1 -1", 0).wish(0, "14", 1).due("habits 1 1 -1", 1)
            .due("habits 1 1 0", 1);
        x.wish(0, "24", 1).due("habits 1 1 -1", 2).due("habits 1 1 0", 1).due("habits 1 1 1", 2).due("habits 14 1 1", 2);
        bench.promise(27, "NONE;");
        x.refused(NONE, "habits 1 1 2", "habits 2 2 0", "habits 14 14 0", "habits 1 1 2147483647");
        bench.run().refused("habits 1 1 0", NONE);
        bench.promise(27, "BAD.");
        x.refused(BAD, "habits 0 1 0", "habits 0 0 -1", "habits 15 1 0", "habits 1 0 0", "habits 1 2 0", "habits 14 15 -1",
            "habits 1 1 -2", "habits 15 15 -1");
        x.due("habits 14 14 -1", 0).due("habits 14 1 -1", 2);
    }

    private static void keepHabit() {
        bench.promise(28, "A HABIT KEPT: its number as one STANDING.");
        Bench.Run x = bench.run().does("thing 0 0 0; thing 0 1 0; when 0 3 1 1").due("keepHabit 3", 1)
            .due("keepHabit 2310", 2).due("keepHabit 11", 3);
        bench.promise(28, "BAD: no such HOUR, THING, STATE;");
        x.refused(BAD, "keepHabit -1", "keepHabit 4", "keepHabit 9", "keepHabit 12", "keepHabit 20", "keepHabit 91",
            "keepHabit 2400", "keepHabit 2410", "keepHabit 10000");
        x.refused(BAD, "keepHabit -100", "keepHabit -2147483648", "keepHabit 2147483647").due("count 4", 4)
            .due("keepHabit 2303", 4);
        bench.promise(28, "FULL.");
        x.due("keepHabit 0", 5).due("keepHabit 0", 6).due("keepHabit 0", 7).refused("keepHabit 0", FULL)
            .refused("keepHabit 4", BAD).due("count 4", 8);
        x.does("ticks 23").due("state 0", 3).due("state 1", 1).due("why 1", 2000).does("ticks 1").due("state 0", 0)
            .due("why 0", 2005);
    }

    private static void forget() {
        bench.promise(29, "FORGOTTEN: how many of the LOG.");
        Bench.Run x = bench.speakers().does("thing 0 0 0; thing 0 0 0").due("forget 0", 0).wish(0, "14", 3).wish(1, "24", 3)
            .wish(0, "34", 3);
        x.due("forget 5", 0).due("forget 0", 4).due("forget 0", 0).due("count 7", 2).due("forget 1", 2).due("count 9", 6)
            .due("count 7", 0);
        x.wish(0, "14", 3).due("count 7", 2).due("forget 0", 2).due("count 9", 8);
        bench.promise(29, "BAD.");
        x.refused(BAD, "forget -1", "forget 6");
    }

    private static void cost() {
        bench.promise(30, "What a THING cost; thing = -1: all.");
        Bench.Run x = bench.speakers().due("cost -1", 0).does("thing 0 0 100; thing 0 1 1; thing 1 2 0").wish(0, "34", 1)
            .wish(0, "15", 2).wish(0, "269", 4);
        x.due(0, "cost 0", "cost -1").does("ticks 1").due("cost 0", 300).due("cost 1", 1).due("cost 2", 0)
            .due("cost -1", 301);
        x.does("ticks 100").due("cost 0", 30300).due("cost 1", 101).due("cost -1", 30401).wish(0, "04", 1).does("ticks 1")
            .due("cost 0", 30300);
        bench.promise(30, "BAD.");
        x.refused(BAD, "cost -2", "cost 3", "cost 10").does("thing 0 0 0").due("cost 3", 0);
        bench.run().refused("cost 0", BAD);
    }

    private static void why() {
        bench.promise(31, "WHY.");
        Bench.Run x = bench.speakers().does("thing 0 0 0; thing 0 0 0; at 1 1 3").wish(0, "14", 3)
            .due(1000, "why 0", "why 1").does("ticks 1");
        x.due("why 0", 1000).due("why 1", 2000).due("undo", 1).due("why 0", 3000).due("why 1", 2000);
        bench.promise(31, "NONE;");
        x.does("thing 0 0 0").refused("why 2", NONE).wish(0, "04", 2).refused("why 2", NONE).wish(0, "14", 7)
            .due("why 2", 1002);
        bench.promise(31, "BAD.");
        x.refused(BAD, "why -1", "why 3", "why 10");
        bench.run().refused("why 0", BAD);
    }

    private static void count() {
        bench.promise(32, "How many: 0 THINGS, 1 WORDS, 2 bytes of THE TEXT, 3 ITEMS IN FORCE, 4 STANDING, 5 HELD back, 6 wishes DONE, "
            + "7 the LOG, 8 HOUR, 9 FORGOTTEN of the LOG so far.");
        Bench.Run x = bench.speakers().does("thing 0 0 0; thing 0 0 0; thing 1 0 0; at 1 2 1; at 1 2 2; at 1 2 3; "
            + "at 1 2 1; at 1 2 1");
        x.rules(ALL_MAY + "n2,1;").wish(0, "14", 3).wish(1, "24", 3).due("forget 1", 2).wish(0, "04", 3).wish(0, "14", 3)
            .wish(0, "14", 0);
        x.does("ticks 9; wipe").text("n");
        int[] want = {3, 14, 1, 3, 5, 5, 5, 8, 9, 2};
        for (int what = 0; what <= 9; what++) x.due("count " + what, want[what]);
        bench.promise(32, "BAD.");
        x.refused(BAD, "count -1", "count 10");
    }
}
