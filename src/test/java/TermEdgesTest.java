/** Terms II to VI by their sentences: the last case on one side of each boundary and the first on the other. */
public final class TermEdgesTest {
    private static final Said SAID = new Said("TermEdgesTest");

    private static final String POT = Texts.POT;
    private static final String FLAT = Texts.FLAT;

    /** A PIPE whose LOAD is the PRESS: LEVER 100, bore 1, HOLDS 100. */
    private static String even(int life) {
        return Texts.pushed(100, life);
    }

    private static String flame(int x, int y) {
        return Texts.flame(x, y, 1);
    }

    private static String room(int x, int y) {
        return Texts.room(x, y, 1);
    }

    private static void is(String call, long got, long want) {
        SAID.is(call, got, want);
    }

    public static void main(String[] args) {
        places();
        bends();
        levers();
        needs();
        loads();
        bowing();
        pieces();
        hours();
        wearing();
        going();
        first();
        clouds();
        lighting();
        taking();
        days();
        there();
        asked();
        SAID.end("II", "III", "IV", "V", "VI");
    }

    private static void places() {
        SAID.says("What it is", "An object is used for at most 512 calls after it has been made");
        BellowsRow last = new BellowsRow();
        for (int call = 0; call < 510; call++) {
            last.works();
        }
        is("the 511th call", last.feed(0x72756e20, 0x31206174, 0x20333b20, 0x20202020, 0x20202020), 20);
        is("the 512th call", last.works(), 1);
        SAID.says("II", "POT k is at x 100 k; its height is that of the one ahead less its step.");
        String pots = "pot step 7 holds 9;pot step 0 holds 9;pot step 99 holds 9;pot step 1 holds 9;";
        BellowsRow x = SAID.good(4, pots);
        int[] heights = {-7, -7, -106, -107};
        for (int k = 0; k < 4; k++) {
            is("height " + k, x.height(k), heights[k]);
        }
        SAID.says("II", "A PIPE begins at its first POT and comes by MOVES (right: x more, up, down: y) to the second: as far right as these are apart, as high as that is.");
        SAID.good(5, pots + "pipe 0 to 3 bore 1 by right 300 down 100 bellows 0 life 1;");
        SAID.bad(2, pots + "pipe 0 to 3 bore 1 by right 299 down 100 ^bellows 0 life 1;");
        SAID.bad(2, pots + "pipe 0 to 3 bore 1 by right 301 down 100 ^bellows 0 life 1;");
        SAID.bad(2, pots + "pipe 0 to 3 bore 1 by right 300 down 99 ^bellows 0 life 1;");
        SAID.bad(2, pots + "pipe 0 to 3 bore 1 by right 300 down 101 ^bellows 0 life 1;");
        SAID.good(5, pots + "pipe 0 to 1 bore 1 by right 100 bellows 0 life 1;");
        SAID.good(5, pots + "pipe 2 to 3 bore 1 by right 100 down 1 bellows 0 life 1;");
        SAID.good(5, pots + "pipe 2 to 3 bore 1 by right 100 down 900 up 899 bellows 0 life 1;");
    }

    private static void bends() {
        SAID.says("II", "A BEND is where two MOVES one behind the other are unlike; it is at x, y from where the PIPE begins;");
        BellowsRow x = SAID.good(4, "pot step 50 holds 9;pot step 3 holds 9;pot step 3 holds 9;"
            + "pipe 1 to 2 bore 1 by right 20 right 30 up 4 up 5 right 50 down 2 down 10 bellows 0 life 1;");
        is("alike are none", x.pipe(0, 2), 3);
        int[][] due = {{50, 0}, {50, 9}, {100, 9}};
        for (int i = 0; i < 3; i++) {
            is("x of " + i, x.bend(0, i, 0), due[i][0]);
            is("y of " + i, x.bend(0, i, 1), due[i][1]);
        }
        is("one MOVE, no BEND", SAID.good(3, POT + POT + FLAT).pipe(0, 2), 0);
        is("eight alike, no BEND", SAID.good(3, POT + POT + FLAT.replace("right 100", "right 10 ".repeat(7) + "right 30")).pipe(0, 2), 0);
        // up and down in turn, and right at last
        String most = FLAT.replace("right 100", "up 1 down 2 up 2 down 2 up 2 down 2 up 1 right 100");
        is("eight unlike, seven BENDS", SAID.good(3, POT + POT + most).pipe(0, 2), 7);
        SAID.says("II", "along: 1, if one comes by right, less 1, if one goes on by right;");
        turn("right 40 up 1 down 2 right 60", new int[] {1, 0, -1}, new int[] {-1, 2, -1});
        SAID.says("II", "across: 1, if one comes by up, -1 by down, and less 1, if one goes on by up, more 1 by down.");
        turn("right 40 down 2 up 1 right 60", new int[] {1, 0, -1}, new int[] {1, -2, 1});
        turn("up 1 right 100 down 2", new int[] {-1, 1}, new int[] {1, 1});
        turn("down 2 right 100 up 1", new int[] {-1, 1}, new int[] {-1, -1});
    }

    /** The BENDS of MOVES that come to the next POT, one lower. */
    private static void turn(String moves, int[] along, int[] across) {
        BellowsRow x = SAID.good(3, POT + "pot step 1 holds 9;" + FLAT.replace("right 100", moves));
        is("BENDS of " + moves, x.pipe(0, 2), along.length);
        for (int i = 0; i < along.length; i++) {
            is("along of " + i + " of " + moves, x.bend(0, i, 2), along[i]);
            is("across of " + i + " of " + moves, x.bend(0, i, 3), across[i]);
        }
    }

    private static void levers() {
        SAID.says("II", "LEVER: the sum over BENDS of x times across less y times along, without its sign.");
        String ahead = POT + "pot step 9 holds 9;" + "pipe 0 to 1 bore 1 by ";
        String end = " bellows 0 life 1;";
        // 100 times 1
        is("above 0", SAID.good(3, ahead + "right 100 down 9" + end).pipe(0, 5), 100);
        // less -9 times -1: -9
        is("below 0", SAID.good(3, ahead + "down 9 right 100" + end).pipe(0, 5), 9);
        // down 10 right 100 up 1: -10, then -100 and 10
        is("below 0 by up", SAID.good(3, ahead + "down 10 right 100 up 1" + end).pipe(0, 5), 100);
        is("no BENDS", SAID.good(3, POT + POT + FLAT).pipe(0, 5), 0);
        // 3, 47 and -50
        is("BENDS that come to 0", SAID.good(3, POT + POT + FLAT.replace("right 100", "up 3 right 50 down 3 right 50")).pipe(0, 5), 0);
        BellowsRow far = SAID.good(9, "pot step 99 holds 9;".repeat(8) + "pipe 0 to 7 bore 40 by right 700 down 693 bellows 1 life 1;");
        is("farthest right", far.pipe(0, 5), 700);
        BellowsRow low = SAID.good(9, "pot step 99 holds 9;".repeat(8) + "pipe 0 to 7 bore 40 by down 693 right 700 bellows 1 life 1;");
        is("farthest down", low.pipe(0, 5), 693);
        SAID.says("II", "LENGTH: all MOVES; WEIGHT: LENGTH times bore.");
        is("LENGTH", far.pipe(0, 3), 1393);
        is("WEIGHT", far.pipe(0, 4), 55720);
        BellowsRow most = SAID.good(3, POT + POT + "pipe 0 to 1 bore 40 by up 900 down 900 up 900 down 900 up 900 down 900 right 50 right 50 bellows 0 life 1;");
        is("most LENGTH", most.pipe(0, 3), 5500);
        is("most WEIGHT", most.pipe(0, 4), 220000);
    }

    private static void needs() {
        SAID.says("II", "PUSH at a PRESS: PRESS times bore times bore times LEVER.");
        String pots = "pot step 99 holds 9;".repeat(8);
        BellowsRow x = SAID.good(9, pots + "pipe 0 to 7 bore 40 by right 700 down 693 bellows 1 life 1 prop;");
        is("none at 0", x.need(0, 0), 0);
        is("at 1", x.need(0, 1), 1600L * 700);
        is("the most", x.need(0, 999), 999L * 1600 * 700);
        SAID.says("II", "NEED: PUSH, and without prop 100 times WEIGHT.");
        BellowsRow y = SAID.good(9, pots + "pipe 0 to 7 bore 40 by right 700 down 693 bellows 1 life 1;");
        is("weight alone", y.need(0, 0), 100L * 1393 * 40);
        is("the most, and weight", y.need(0, 999), 999L * 1600 * 700 + 100L * 1393 * 40);
    }

    private static void loads() {
        SAID.says("II", "HOLDS: bellows and stay; it can bear 100 times HOLDS. LOAD: 100 times NEED through that, cut;");
        // NEED 100 times PRESS
        String ahead = "pot step 0 holds 9;pot step 1 holds 9;pipe 0 to 1 bore 1 by right 100 down 1 bellows ";
        BellowsRow x = SAID.good(3, ahead + "2 life 1 prop stay 1;");
        is("100 through 3", x.load(0, 1), 33);
        is("200 through 3", x.load(0, 2), 66);
        is("300 through 3", x.load(0, 3), 100);
        is("bellows alone", SAID.good(3, ahead + "3 life 1 prop;").load(0, 1), 33);
        is("stay alone", SAID.good(3, ahead + "0 life 1 prop stay 3;").load(0, 1), 33);
        is("the most HOLDS", SAID.good(3, ahead + "30000 life 1 prop stay 30000;").load(0, 600), 1);
        is("the most HOLDS, one less", SAID.good(3, ahead + "30000 life 1 prop stay 30000;").load(0, 599), 0);
        SAID.says("II", "of no HOLDS: 0 for NEED 0, else 10000;");
        is("no NEED", SAID.good(3, ahead + "0 life 1 prop;").load(0, 0), 0);
        is("NEED by PRESS", SAID.good(3, ahead + "0 life 1 prop;").load(0, 1), 10000);
        is("NEED by weight", SAID.good(3, ahead + "0 life 1;").load(0, 0), 10000);
        is("stay 0 is none", SAID.good(3, ahead + "0 life 1 prop stay 0;").load(0, 1), 10000);
        is("a stay of 1 is one", SAID.good(3, ahead + "0 life 1 prop stay 1;").load(0, 1), 100);
        SAID.says("II", "10000 at most.");
        // bore 3, LEVER 100: 900 times PRESS through 90
        BellowsRow y = SAID.good(3, ahead.replace("bore 1", "bore 3") + "90 life 1 prop;");
        is("9990", y.load(0, 999), 9990);
        BellowsRow z = SAID.good(3, ahead.replace("bore 1", "bore 10") + "1 life 1 prop;");
        is("10000", z.load(0, 1), 10000);
        is("above", z.load(0, 2), 10000);
        is("far above", z.load(0, 999), 10000);
        // 100 times PRESS through 9: 900 is 10000 just, 899 is 9988
        BellowsRow w = SAID.good(3, ahead + "9 life 1 prop;");
        is("9988", w.load(0, 899), 9988);
        is("10000 just", w.load(0, 900), 10000);
        is("10011", w.load(0, 901), 10000);
    }

    private static void bowing() {
        SAID.says("II", "A PIPE BOWS at a PRESS if its LOAD is above 100.");
        BellowsRow x = SAID.good(3, even(9999));
        is("LOAD 100", x.load(0, 100), 100);
        is("bows", x.bows(0), 101);
        is("at 100 it does not go by LOAD", SAID.good(4, even(9999) + "run 1 at 100;").goes(0), -1);
        is("at 101 it does", SAID.good(4, even(9999) + "run 1 at 101;").goes(0), 0);
        // 100 and a part is 100: 10050 through 100
        String part = POT + "pot step 1 holds 9;pipe 0 to 1 bore 1 by right 100 down 1 bellows 199 life 9999 prop;";
        is("100 and a part", SAID.good(3, part).load(0, 200), 100);
        is("100 and more of a part", SAID.good(3, part).load(0, 199), 100);
        is("bows from 201 on", SAID.good(3, part).bows(0), 201);
    }

    private static void pieces() {
        SAID.says("II", "PIECE it was put round: the first POT between its two (by number; NONE: they are next to each other).");
        String pots = POT.repeat(8);
        int[][] pairs = {{0, 1, -1}, {6, 7, -1}, {0, 2, 1}, {5, 7, 6}, {0, 7, 1}, {3, 6, 4}};
        for (int[] p : pairs) {
            BellowsRow x = SAID.good(9, pots + "pipe " + p[0] + " to " + p[1] + " bore 1 by right " + 100 * (p[1] - p[0]) + " bellows 0 life 1;");
            is("from " + p[0] + " to " + p[1], x.pipe(0, 6), p[2]);
        }
    }

    private static void hours() {
        SAID.says("III", "HOURS 0, 1, ..: run: so many with that PRESS;");
        BellowsRow x = SAID.good(3, "run 1 at 5;run 2 at 7;run 1 at 0;");
        int[] runs = {5, 7, 7, 0, -2};
        for (int h = 0; h < runs.length; h++) {
            is("run, HOUR " + h, x.press(h), runs[h]);
        }
        is("no HOUR -1", x.press(-1), -2);
        SAID.says("III", "swing: so many, the first one's PRESS, the second one's, and so on in turn.");
        BellowsRow y = SAID.good(4, "swing 1 and 2 for 1;swing 3 and 4 for 2;swing 5 and 6 for 3;swing 7 and 8 for 4;");
        int[] swings = {1, 3, 4, 5, 6, 5, 7, 8, 7, 8, -2};
        for (int h = 0; h < swings.length; h++) {
            is("swing, HOUR " + h, y.press(h), swings[h]);
        }
        is("the second one's never comes of one HOUR", SAID.good(2, "pot step 0 holds 5;swing 1 and 9 for 1;").bursts(0), -1);
        BellowsRow z = SAID.good(60, "run 1 at 0;".repeat(59) + "swing 8 and 9 for 2;");
        is("the sixtieth LINE's first", z.press(59), 8);
        is("the sixtieth LINE's second", z.press(60), 9);
        is("it comes of two", SAID.good(2, "pot step 0 holds 5;swing 1 and 9 for 2;").bursts(0), 1);
    }

    private static void wearing() {
        SAID.says("III", "WEAR of a PIPE: 0 at first; in an HOUR whose PRESS is unlike that of the one ahead (HOUR 0: unlike 0)"
            + " it is LOAD less 49 more, if LOAD is above 49.");
        BellowsRow x = SAID.good(9, even(9999) + "run 2 at 60;run 1 at 60;swing 61 and 61 for 2;swing 49 and 50 for 2;run 1 at 48;run 1 at 51;");
        int[] wears = {11, 11, 11, 23, 23, 23, 24, 24, 26};
        for (int h = 0; h < wears.length; h++) {
            is("WEAR behind " + h, x.wear(0, h), wears[h]);
        }
        is("HOUR 0 at 49", SAID.good(4, even(1) + "run 1 at 49;").wear(0, 0), 0);
        is("HOUR 0 at 50", SAID.good(4, even(1) + "run 1 at 50;").wear(0, 0), 1);
        // LOAD 100 by weight, at any PRESS
        String weighty = POT + POT + "pipe 0 to 1 bore 1 by right 100 bellows 100 life 9999;";
        BellowsRow y = SAID.good(6, weighty + "run 2 at 0;run 1 at 1;run 1 at 0;");
        int[] by = {0, 0, 51, 102};
        for (int h = 0; h < by.length; h++) {
            is("weight alone, behind " + h, y.wear(0, h), by[h]);
        }
        is("HOUR 0 of PRESS 1", SAID.good(4, weighty + "run 1 at 1;").wear(0, 0), 51);
        SAID.says("III", "(WEAR is told as if it never went.)");
        BellowsRow z = SAID.good(4, even(1) + "swing 200 and 0 for 4;");
        is("gone at once", z.goes(0), 0);
        is("WEAR then", z.wear(0, 0), 151);
        is("and on", z.wear(0, 2), 302);
    }

    private static void going() {
        SAID.says("III", "It goes in the first HOUR in which it BOWS (by LOAD), or else its WEAR is its life or more (by WEAR).");
        goes(even(51) + "run 1 at 100;", 0, 1);
        goes(even(52) + "run 1 at 100;", -1, -1);
        goes(even(50) + "run 1 at 100;", 0, 1);
        // both at once: by LOAD
        goes(even(52) + "run 1 at 101;", 0, 0);
        goes(even(1) + "run 1 at 101;", 0, 0);
        // WEAR ahead of BOWING, and the other way
        goes(even(51) + "run 1 at 100;run 1 at 101;", 0, 1);
        goes(even(52) + "run 1 at 100;run 1 at 101;", 1, 0);
        goes(even(2) + "run 1 at 50;swing 0 and 50 for 2;", 2, 1);
        goes(even(3) + "run 1 at 50;swing 0 and 50 for 2;", -1, -1);
        goes(even(1) + "run 1000 at 0;run 999 at 0;run 1 at 101;", 1999, 0);
        goes(even(1) + "run 1000 at 0;run 999 at 0;run 1 at 50;", 1999, 1);
        goes(even(1), -1, -1);
    }

    private static void goes(String text, int hour, int why) {
        BellowsRow x = Due.made(text);
        is("goes of " + text, x.goes(0), hour);
        is("why of " + text, x.why(0), why);
    }

    private static void first() {
        SAID.says("IV", "FIRST: of all PIPES and POTS that go that in the least HOUR; of several PIPES ahead of POTS, then by number.");
        String pots = "pot step 0 holds 100;pot step 1 holds 99;";
        String pipe = "pipe 0 to 1 bore 1 by right 100 down 1 bellows 100 life 9999 prop;";
        String hours = "run 5 at 99;run 1 at 100;run 1 at 101;";
        first(pots + hours, 101, 5);
        first(pots.replace("99", "100") + hours, 100, 6);
        first(pots.replace("99", "100") + pipe + pipe + hours, 0, 6);
        first(pots.replace("99", "100") + pipe.replace("9999", "102") + pipe.replace("9999", "51") + hours, 1, 5);
        first(pots + pipe + hours, 101, 5);
        first(pots.replace("99", "999").replace("100", "999") + hours, -1, -1);
        first(pots, -1, -1);
        first("run 9 at 999;", -1, -1);
        first(pots.replace("99", "0") + "run 1 at 0;run 1 at 1;", 101, 1);
        StringBuilder many = new StringBuilder("pot step 0 holds 999;pot step 1 holds 999;");
        for (int k = 0; k < 12; k++) {
            many.append(pipe.replace("9999", k == 11 ? "1" : "9999"));
        }
        first(many + "run 1 at 50;", 11, 0);
        first("pot step 0 holds 9;".repeat(7) + "pot step 0 holds 8;run 1 at 9;", 107, 0);
    }

    private static void first(String text, int piece, int hour) {
        BellowsRow x = Due.made(text);
        is("first of " + text, x.first(0), piece);
        is("its HOUR of " + text, x.first(1), hour);
    }

    private static void clouds() {
        SAID.says("V", "A PIPE goes in an HOUR with its PRESS, at the middle of its two POTS (x, cut; y 0).");
        String pots = "pot step 9 holds 9;".repeat(8);
        int[][] pairs = {{0, 1, 50}, {1, 2, 150}, {0, 2, 100}, {0, 7, 350}, {6, 7, 650}, {2, 5, 350}};
        for (int[] p : pairs) {
            String text = pots + "pipe " + p[0] + " to " + p[1] + " bore 1 by right " + 100 * (p[1] - p[0]) + " down " + 9 * (p[1] - p[0])
                + " bellows 0 life 1;run 1 at 0;" + flame(900, 500);
            BellowsRow x = SAID.good(11, text);
            for (int off = -1; off <= 1; off++) {
                is("a ROOM " + off + " off the middle of " + p[0] + " and " + p[1], x.moved(0, 0, 0, p[2] + off, 0), off == 0 ? -1 : 0);
                is("a ROOM " + off + " above the middle of " + p[0] + " and " + p[1], x.moved(0, 0, 0, p[2], off), off == 0 ? -1 : 0);
            }
        }
        BellowsRow by = SAID.good(6, POT + POT + FLAT + "run 1 at 4;run 1 at 9;run 1 at 0;");
        is("the HOUR's PRESS, 0", by.reach(0, 0, 1), 2);
        is("the HOUR's PRESS, 1", by.reach(0, 1, 1), 3);
        is("the HOUR's PRESS, 2", by.reach(0, 2, 60), 0);
        SAID.says("V", "After m minutes its CLOUD is m times wind by WAY from there (left, right: x; up, down: y),");
        for (int m = 1; m <= 60; m += 59) {
            is("right " + m, litAt("right", 50 + 3 * m, 0), 1);
            is("left " + m, litAt("left", 50 - 3 * m, 0), 1);
            is("up " + m, litAt("up", 50, 3 * m), 1);
            is("down " + m, litAt("down", 50, -3 * m), 1);
            is("not right " + m, litAt("left", 50 + 3 * m, 0), 0);
            is("not left " + m, litAt("right", 50 - 3 * m, 0), 0);
            is("not up " + m, litAt("down", 50, 3 * m), 0);
            is("not down " + m, litAt("up", 50, -3 * m), 0);
            is("minute " + m, SAID.good(6, Texts.cloud(0) + "wind right 3;" + flame(50 + 3 * m, 0)).lights(0, 0), m);
        }
        is("after no minute", litAt("right", 50, 0), 0);
        is("after 61 minutes", litAt("right", 50 + 3 * 61, 0), 0);
        SAID.says("V", "and reaches r: the greatest with r times r at most PRESS times bore times m;");
        int[][] reaches = {{0, 60, 0}, {1, 1, 1}, {3, 1, 1}, {4, 1, 2}, {8, 1, 2}, {9, 1, 3}, {99, 1, 9}, {100, 1, 10}, {101, 1, 10}, {25, 4, 10}, {999, 60, 244},
            {960, 60, 240}, {959, 60, 239}};
        for (int[] r : reaches) {
            is("PRESS " + r[0] + ", minute " + r[1], SAID.good(4, Texts.cloud(r[0])).reach(0, 0, r[1]), r[2]);
        }
        is("the greatest of all", SAID.good(4, Texts.cloud(999).replace("bore 1 ", "bore 40 ")).reach(0, 0, 60), 1548);
        is("bore 36 of PRESS 1", SAID.good(4, Texts.cloud(1).replace("bore 1 ", "bore 36 ")).reach(0, 0, 1), 6);
        is("bore 35 of PRESS 1", SAID.good(4, Texts.cloud(1).replace("bore 1 ", "bore 35 ")).reach(0, 0, 1), 5);
    }

    /** Whether a CLOUD of PRESS 0, which reaches 0 and drifts by 3, lights a ROOM that is moved to a place. */
    private static int litAt(String way, int x, int y) {
        return -Due.made(Texts.cloud(0) + "wind " + way + " 3;" + flame(900, 500)).moved(0, 0, 0, x, y);
    }

    private static void lighting() {
        SAID.says("V", "a ROOM is in it, if it is r or less away (x and y apart, together).");
        // minute 1 reaches 10, minute 2 reaches 14
        int[][] rooms = {{50, 0, 1}, {60, 0, 1}, {61, 0, 2}, {40, 0, 1}, {39, 0, 2}, {50, 10, 1}, {50, 11, 2}, {55, 5, 1}, {55, 6, 2}, {45, 5, 1}, {45, 6, 2},
            {44, 5, 2}, {64, 0, 2}, {65, 0, 3}};
        for (int[] r : rooms) {
            is("a ROOM at " + r[0] + " " + r[1], SAID.good(5, Texts.cloud(100) + flame(r[0], r[1])).lights(0, 0), r[2]);
        }
        SAID.says("V", "It LIGHTS in the first minute 1 .. 60 in which a ROOM with a flame is in it;");
        // 15 times 60 is 30 times 30; 61 times 61, but 60 times 61 is less
        is("minute 60", SAID.good(5, Texts.cloud(15) + flame(80, 0)).lights(0, 0), 60);
        is("one farther", SAID.good(5, Texts.cloud(15) + flame(81, 0)).lights(0, 0), -1);
        is("minute 61 is none", SAID.good(5, Texts.cloud(61) + flame(111, 0)).lights(0, 0), -1);
        is("one nearer", SAID.good(5, Texts.cloud(61) + flame(110, 0)).lights(0, 0), 60);
        is("minute 1", SAID.good(5, Texts.cloud(100) + flame(50, 0)).lights(0, 0), 1);
        is("no flame", SAID.good(5, Texts.cloud(100) + room(50, 0)).lights(0, 0), -1);
        is("the flame alone", SAID.good(6, Texts.cloud(100) + room(50, 0) + flame(61, 0)).lights(0, 0), 2);
        is("the first of two", SAID.good(6, Texts.cloud(100) + flame(65, 0) + flame(61, 0)).lights(0, 0), 2);
        is("the last of twelve", SAID.good(16, Texts.cloud(100) + room(50, 0).repeat(11) + flame(50, 0)).lights(0, 0), 1);
        is("no ROOMS", SAID.good(4, Texts.cloud(100)).lights(0, 0), -1);
    }

    private static void taking() {
        SAID.says("V", "it takes all ROOMS 2 r or less away then.");
        // lit in minute 1, r 10
        BellowsRow x = SAID.good(13, Texts.cloud(100) + flame(50, 0) + room(70, 0) + room(71, 0) + room(30, 0) + room(29, 0) + room(50, 20) + room(50, 21)
            + room(60, 10) + flame(60, 11));
        is("20 away, not 21", x.taken(0, 0), 1 + 2 + 8 + 32 + 128);
        // lit in minute 2, r 14, 28 away
        BellowsRow y = SAID.good(7, Texts.cloud(100) + flame(61, 0) + room(78, 0) + room(79, 0));
        is("28 away, not 29", y.taken(0, 0), 3);
        // from where it has drifted to: minute 1, at 55
        BellowsRow z = SAID.good(10, Texts.cloud(100) + "wind right 5;" + flame(65, 0) + room(75, 0) + room(76, 0) + room(35, 0) + room(34, 0));
        is("drifted", z.taken(0, 0), 1 + 2 + 8);
        is("unlit it takes none", SAID.good(5, Texts.cloud(100) + room(50, 0)).taken(0, 0), 0);
        is("reaching 0 it takes what is there", SAID.good(7, Texts.cloud(0) + flame(50, 0) + room(50, 0) + room(51, 0)).taken(0, 0), 3);
    }

    private static void days() {
        SAID.says("V", "HOUR h is of DAY h / 24, the hour h modulo 24; PEOPLE in a ROOM: day, if that is 8 .. 16 and the DAY modulo 7 is below 5, else night.");
        BellowsRow x = Due.made(POT + POT + FLAT + "run 1000 at 0;run 1000 at 0;room at 50 0 day 1 night 2 flame;");
        for (int day : new int[] {0, 1, 4, 5, 6, 7, 11, 12, 13, 14, 77, 81, 82}) {
            for (int hour : new int[] {0, 7, 8, 9, 15, 16, 17, 23}) {
                boolean work = day % 7 < 5 && hour > 7 && hour < 17;
                is("DAY " + day + ", hour " + hour, x.lives(0, 24 * day + hour), work ? 1 : 2);
            }
        }
    }

    private static void there() {
        SAID.says("VI", "A PERSON is there on a DAY, but from the first D of away to the second one.");
        BellowsRow x = SAID.good(4, "person knows draw away 10 to 20;person knows push away 0 to 0;person knows metal away 999 to 999;person knows gas away 0 to 999;");
        int[][] due = {{0, 9, 0}, {0, 10, -1}, {0, 15, -1}, {0, 20, -1}, {0, 21, 0}, {0, 0, 0}, {0, 999, 0}, {1, 0, -1}, {1, 1, 1}, {2, 998, 2}, {2, 999, -1},
            {3, 0, -1}, {3, 500, -1}, {3, 999, -1}};
        for (int[] d : due) {
            is("SUBJECT " + d[0] + " on " + d[1], x.who(d[0], d[1]), d[2]);
        }
        BellowsRow y = SAID.good(1, "person knows draw;");
        is("never away: 0", y.who(0, 0), 0);
        is("never away: 1", y.who(0, 1), 0);
        is("never away: 999", y.who(0, 999), 0);
    }

    private static void asked() {
        SAID.says("VI", "ASKED is a SUBJECT of a CHANGE, if some RULE of its KIND asks it, and a PERSON who knows it is there on its DAY.");
        String change = "change pot day 5 needs gas;";
        is("both", SAID.good(3, "rule pot asks gas;person knows gas;" + change).asked(0, 0), 8);
        is("no RULE", SAID.good(2, "person knows gas;" + change).asked(0, 0), 0);
        is("a RULE of another KIND", SAID.good(3, "rule pipe asks gas;person knows gas;" + change).asked(0, 0), 0);
        is("a RULE that asks another", SAID.good(3, "rule pot asks draw;person knows gas;" + change).asked(0, 0), 0);
        is("the second RULE", SAID.good(4, "rule pot asks draw;rule pot asks gas;person knows gas;" + change).asked(0, 0), 8);
        is("no PERSON", SAID.good(2, "rule pot asks gas;" + change).asked(0, 0), 0);
        is("one who knows another", SAID.good(3, "rule pot asks gas;person knows draw;" + change).asked(0, 0), 0);
        is("one away on its DAY", SAID.good(3, "rule pot asks gas;person knows gas away 5 to 5;" + change).asked(0, 0), 0);
        is("one away ahead of it", SAID.good(3, "rule pot asks gas;person knows gas away 0 to 4;" + change).asked(0, 0), 8);
        is("one away behind it", SAID.good(3, "rule pot asks gas;person knows gas away 6 to 9;" + change).asked(0, 0), 8);
        is("another one there", SAID.good(4, "rule pot asks gas;person knows gas away 5 to 5;person knows gas;" + change).asked(0, 0), 8);
        is("told behind it", SAID.good(3, change + "person knows gas;rule pot asks gas;").asked(0, 0), 8);
        SAID.says("VI", "An ASK: a KIND asks a SUBJECT.");
        is("none", SAID.good(1, change).count(6), 0);
        is("the first", SAID.good(1, "rule pot asks draw;").count(6), 1);
        is("the last", SAID.good(1, "rule press asks gas;").count(6), 32768);
        is("all", SAID.good(4, "rule pot asks draw push metal gas;rule pipe asks draw push metal gas;rule prop asks draw push metal gas;"
            + "rule press asks draw push metal gas;").count(6), 65535);
    }
}
