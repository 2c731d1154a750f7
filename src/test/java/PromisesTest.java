/** Each promise by answers that were worked out by hand, with its edges and wrong inputs. */
public final class PromisesTest {
    private static final int NOTHING = -2000000000;

    /*
     * HOURS 0 .. 11: 4 4 4, 5 4 5 4 5 4, 5 5, 11.
     * PIPE 0: BENDS at 50, 0 and 50, -28; LEVER 28, LENGTH 228, WEIGHT 456, HOLDS 700;
     *   NEED 112 times PRESS and 45600: LOAD 65 at 4 and 5, 66 at 11; BOWS from 225 on.
     * PIPES 1, 2: one BEND at 100, 0; LEVER 100, propped, HOLDS 10: LOAD 10 times PRESS.
     */
    private static final String ROW = "pot step 0 holds 10; pot step 14 holds 4;\npot step 14 holds 99;"
        + "pipe 0 to 2 bore 2 by right 50 down 28 right 150 bellows 600 life 100 stay 100;"
        + "pipe 0 to 1 bore 1 by right 100 down 14 bellows 10 life 4 prop;"
        + "pipe 1 to 2 bore 1 by right 100 down 14 bellows 8 life 5 prop stay 2;"
        + "run 3 at 4; swing 5 and 4 for 6; run 2 at 5; run 1 at 11;"
        + "wind right 2;"
        + "room at 150 10 day 7 night 3 flame; room at 176 0 day 5 night 9; room at 177 0 day 100 night 200;";

    private static final String ASKING = "person knows draw push draw away 10 to 20; person knows gas;"
        + "person knows push metal away 0 to 5;"
        + "rule pot asks draw gas; rule pipe asks push push; rule pot asks draw metal;"
        + "change pot day 15 needs draw gas; change pot day 9 needs draw gas;"
        + "change pipe day 3 needs push metal; change prop day 30 needs gas;";

    private static final Due DUE = new Due("PromisesTest");

    private static void is(String call, long got, long want) {
        DUE.is(call, got, want);
    }

    public static void main(String[] args) {
        newObject();
        tape();
        worksAndFault();
        shapes();
        strains();
        goings();
        wouldBes();
        bounds();
        levers();
        trials();
        clouds();
        movedRooms();
        days();
        asking();
        leastRules();
        counts();
        rows();
        images();
        DUE.end();
    }

    private static void newObject() {
        BellowsRow x = new BellowsRow();
        for (int what = 0; what <= 9; what++) {
            is("new count " + what, x.count(what), 0);
        }
        is("new fault 0", x.fault(0), 0);
        is("new fault 1", x.fault(1), -1);
        is("new fault 2", x.fault(2), -1);
        is("new height", x.height(0), NOTHING);
        is("new pipe", x.pipe(0, 0), NOTHING);
        is("new whole", x.whole(), 0);
        is("new show", x.show(), 0);
        is("new trial", x.trial(0), 0);
        is("new first", x.first(1), -1);
        is("new who", x.who(0, 0), -1);
        is("new rules", x.rules(16), 0);
        is("new judge", x.judge(0), -6);
        is("new back", x.back(2), -6);
        is("NONE", BellowsRow.NONE, -1);
    }

    private static void tape() {
        BellowsRow x = new BellowsRow();
        is("end of none", x.end(0), 0);
        is("end beyond none", x.end(1), -1);
        for (int i = 1; i <= 80; i++) {
            is("feed " + i, x.feed(0x20202020, 0x0a0a0a0a, 0x20202020, 0x20202020, 0x2020200a), 20 * i);
        }
        is("feed beyond", x.feed(0, 0, 0, 0, 0), -1);
        is("count 8", x.count(8), 1600);
        is("end below", x.end(-1), -1);
        is("end beyond", x.end(1601), -1);
        is("end all", x.end(1600), 1600);
        is("end 1581", x.end(1581), 1581);
        is("feed that does not fit", x.feed(0, 0, 0, 0, 0), -1);
        is("end 1580", x.end(1580), 1580);
        is("feed that fits", x.feed(0x20202020, 0x20202020, 0x20202020, 0x20202020, 0x20202020), 1600);
        is("blanks", x.works(), 0);
        is("count 8 behind", x.count(8), 0);
        // "run 7 at 123;" by its bytes, the highest first
        is("feed", x.feed(0x72756e20, 0x37206174, 0x20313233, 0x3b000000, 0x00ff0000), 20);
        is("end 13", x.end(13), 13);
        is("works", x.works(), 1);
        is("hours", x.count(2), 7);
        is("press", x.press(6), 123);
    }

    private static void worksAndFault() {
        BellowsRow x = Due.made(ROW);
        is("lines", x.count(7), 14);
        Due.tape(x, "pot step 3 holds 1; run");
        is("faulty works", x.works(), -4);
        is("fault 0", x.fault(0), 1);
        is("fault 1", x.fault(1), 23);
        is("fault 2", x.fault(2), -1);
        is("fault -1", x.fault(-1), -1);
        is("all stays: tape", x.count(8), 23);
        is("all stays: tape, read again", x.works(), -4);
        is("all stays: tape, at one place", x.fault(1), 23);
        is("all stays: what is right of it", x.end(19), 19);
        is("all stays: is the works then", x.works(), 1);
        is("all stays: tape is empty then", x.count(8), 0);
        Due.tape(x, ROW);
        is("the row again", x.works(), 14);
        Due.tape(x, "pot step 3 holds 1; run");
        is("faulty again", x.works(), -4);
        is("all stays: lines", x.count(7), 14);
        is("all stays: pots", x.count(0), 3);
        is("all stays: height", x.height(2), -28);
        Due.tape(x, "pot step 3 holds 1;");
        is("other works", x.works(), 1);
        is("no fault", x.fault(0), 0);
        is("no place", x.fault(1), -1);
        is("in place of others: pots", x.count(0), 1);
        is("in place of others: pipes", x.count(1), 0);
        is("in place of others: hours", x.count(2), 0);
        is("in place of others: rooms", x.count(3), 0);
        is("in place of others: height", x.height(0), -3);
        is("empty works", x.works(), 0);
        is("empty works: pots", x.count(0), 0);
    }

    private static void shapes() {
        BellowsRow x = Due.made(ROW);
        int[] heights = {0, -14, -28};
        for (int i = 0; i < 3; i++) {
            is("height " + i, x.height(i), heights[i]);
        }
        is("height 3", x.height(3), NOTHING);
        is("height -1", x.height(-1), NOTHING);
        int[][] pipes = {{0, 2, 2, 228, 456, 28, 1, 700}, {0, 1, 1, 114, 114, 100, -1, 10}, {1, 2, 1, 114, 114, 100, -1, 10}};
        for (int k = 0; k < 3; k++) {
            for (int what = 0; what < 8; what++) {
                is("pipe " + k + " " + what, x.pipe(k, what), pipes[k][what]);
            }
        }
        is("pipe what 8", x.pipe(0, 8), NOTHING);
        is("pipe what -1", x.pipe(0, -1), NOTHING);
        is("pipe 3", x.pipe(3, 0), NOTHING);
        is("pipe -1", x.pipe(-1, 0), NOTHING);
        int[][] bends = {{50, 0, 1, 1}, {50, -28, -1, -1}};
        for (int i = 0; i < 2; i++) {
            for (int what = 0; what < 4; what++) {
                is("bend " + i + " " + what, x.bend(0, i, what), bends[i][what]);
            }
        }
        is("bend 2", x.bend(0, 2, 0), NOTHING);
        is("bend -1", x.bend(0, -1, 0), NOTHING);
        is("bend what 4", x.bend(0, 0, 4), NOTHING);
        is("bend what -1", x.bend(0, 0, -1), NOTHING);
        is("bend of pipe 3", x.bend(3, 0, 0), NOTHING);
        turns();
    }

    /** Ups and downs on each other, two MOVES alike, and a PIPE over two POTS. */
    private static void turns() {
        BellowsRow x = Due.made("pot step 5 holds 0;pot step 0 holds 0;pot step 0 holds 0;pot step 1 holds 0;"
            + "pipe 0 to 3 bore 40 by up 10 down 30 up 9 right 100 right 150 down 100 up 110 right 50 bellows 30000 life 1 stay 30000;"
            + "pipe 1 to 2 bore 1 by right 40 right 60 bellows 0 life 1;");
        is("height of POT 0", x.height(0), -5);
        int[][] bends = {{0, 10, 0, 2}, {0, -20, 0, -2}, {0, -11, -1, 1}, {250, -11, 1, 1}, {250, -111, 0, -2}, {250, -1, -1, 1}};
        is("bends", x.pipe(0, 2), 6);
        for (int i = 0; i < bends.length; i++) {
            for (int what = 0; what < 4; what++) {
                is("turn " + i + " " + what, x.bend(0, i, what), bends[i][what]);
            }
        }
        // 0, 0, -11, 250 + 11, -500, 250 - 1
        is("lever", x.pipe(0, 5), 1);
        is("length", x.pipe(0, 3), 559);
        is("weight", x.pipe(0, 4), 22360);
        is("round", x.pipe(0, 6), 1);
        is("holds", x.pipe(0, 7), 60000);
        is("no bend", x.pipe(1, 2), 0);
        is("no lever", x.pipe(1, 5), 0);
        is("bend of none", x.bend(1, 0, 0), NOTHING);
        mostBends();
    }

    /** Eight MOVES, each unlike the one ahead. */
    private static void mostBends() {
        BellowsRow x = Due.made("pot step 0 holds 0;pot step 9 holds 0;"
            + "pipe 0 to 1 bore 1 by right 10 up 1 right 20 down 5 right 30 up 2 right 40 down 7 bellows 0 life 1;");
        is("seven bends", x.pipe(0, 2), 7);
        is("the seventh: x", x.bend(0, 6, 0), 100);
        is("the seventh: y", x.bend(0, 6, 1), -2);
        is("the seventh: along", x.bend(0, 6, 2), 1);
        is("the seventh: across", x.bend(0, 6, 3), 1);
        is("no eighth", x.bend(0, 7, 0), NOTHING);
        is("lever of seven", x.pipe(0, 5), 100);
        long[] moves = {2, 1, 0, 10, 2, 2, 0, 20, 1, 5, 0, 30, 2, 11, 0, 40};
        x.row(0, 3, 16);
        for (int i = 0; i < moves.length; i++) {
            x.write(0, i, moves[i]);
        }
        is("another way", x.lever(0, 0), 9);
        is("and once more", x.lever(0, 0), 9);
    }

    private static void strains() {
        BellowsRow x = Due.made(ROW);
        is("need 0", x.need(0, 0), 45600);
        is("need 10", x.need(0, 10), 46720);
        is("need of a propped one", x.need(1, 7), 700);
        is("need of a propped one at 0", x.need(1, 0), 0);
        is("need 999", x.need(0, 999), 157488);
        is("need 1000", x.need(0, 1000), -2);
        is("need -1", x.need(0, -1), -2);
        is("need of none", x.need(3, 0), -2);
        is("load 0", x.load(0, 0), 65);
        is("load 11", x.load(0, 11), 66);
        is("load 224", x.load(0, 224), 100);
        is("load 225", x.load(0, 225), 101);
        is("load at most", x.load(1, 999), 9990);
        is("load 1000", x.load(0, 1000), -2);
        is("load -1", x.load(0, -1), -2);
        is("load of none", x.load(-1, 0), -2);
        is("bows 0", x.bows(0), 225);
        is("bows 1", x.bows(1), 11);
        is("bows of none", x.bows(3), -2);
        BellowsRow y = Due.made("pot step 0 holds 0;pot step 0 holds 0;pipe 0 to 1 bore 40 by up 900 right 100 down 900 bellows 0 life 1 prop;"
            + "pipe 0 to 1 bore 1 by right 100 bellows 0 life 1 prop;pipe 0 to 1 bore 1 by right 100 bellows 0 life 1;"
            + "pipe 0 to 1 bore 40 by up 900 right 100 down 900 bellows 1 life 1;");
        // BENDS at 0, 900 (along -1, across 1) and 100, 900 (along 1, across 1): 900 and 100 - 900
        is("lever", y.pipe(0, 5), 100);
        is("no holds, no need", y.load(0, 0), 0);
        is("no holds", y.load(0, 1), 10000);
        is("no holds: bows", y.bows(0), 1);
        is("no holds, never a need", y.load(1, 999), 0);
        is("never bows", y.bows(1), -1);
        is("no holds, weight alone", y.load(2, 0), 10000);
        is("bows at 0", y.bows(2), 0);
        is("load 10000 at most", y.load(3, 999), 10000);
        Due.tape(y, "pot step 0 holds 0;pot step 0 holds 0;pipe 0 to 1 bore 1 by up 1 right 100 down 1 bellows 989 life 9999 prop;"
            + "pipe 0 to 1 bore 1 by up 1 right 100 down 1 bellows 990 life 9999 prop;");
        is("works", y.works(), 4);
        is("bows at 999", y.bows(0), 999);
        is("would bow at 1000", y.bows(1), -1);
        y.row(0, 3, 60);
        y.write(0, 59, 5000L);
        is("the last of sixty", y.other(0, 0), 59);
        is("no more than 999", y.other(0, 1), -1);
        Due.tape(y, "pot step 0 holds 0;pot step 0 holds 0;pipe 0 to 1 bore 40 by up 900 right 100 down 900 bellows 1 life 1;");
        is("works", y.works(), 3);
        is("need as long", y.need(0, 999), 999L * 1600 * 100 + 100L * 1900 * 40);
    }

    private static void goings() {
        BellowsRow x = Due.made(ROW);
        int[] press = {4, 4, 4, 5, 4, 5, 4, 5, 4, 5, 5, 11};
        for (int h = 0; h < 12; h++) {
            is("press " + h, x.press(h), press[h]);
        }
        is("press 12", x.press(12), -2);
        is("press -1", x.press(-1), -2);
        int[] wears = {16, 16, 16, 32, 48, 64, 80, 96, 112, 128, 128, 145};
        int[] others = {0, 0, 0, 1, 1, 2, 2, 3, 3, 4, 4, 65};
        for (int h = 0; h < 12; h++) {
            is("wear 0 " + h, x.wear(0, h), wears[h]);
            is("wear 1 " + h, x.wear(1, h), others[h]);
        }
        is("wear 12", x.wear(0, 12), -2);
        is("wear -1", x.wear(0, -1), -2);
        is("wear of none", x.wear(3, 0), -2);
        int[] goes = {8, 9, 11};
        int[] why = {1, 1, 0};
        int[] bursts = {11, 3, -1};
        for (int k = 0; k < 3; k++) {
            is("goes " + k, x.goes(k), goes[k]);
            is("why " + k, x.why(k), why[k]);
            is("bursts " + k, x.bursts(k), bursts[k]);
        }
        is("goes of none", x.goes(3), -2);
        is("why of none", x.why(3), -2);
        is("bursts of none", x.bursts(3), -2);
        is("bursts -1", x.bursts(-1), -2);
        is("first 0", x.first(0), 101);
        is("first 1", x.first(1), 3);
        is("first 2", x.first(2), -1);
        is("next 101 0", x.next(101, 0), 0);
        is("next 101 1", x.next(101, 1), 8);
        is("next 0 0", x.next(0, 0), 101);
        is("next 102 1", x.next(102, 1), 3);
        is("next what 2", x.next(0, 2), -1);
        is("next 103", x.next(103, 0), -2);
        is("next 3", x.next(3, 0), -2);
        is("next -1", x.next(-1, 0), -2);
        is("next 99", x.next(99, 0), -2);
        ties();
    }

    private static void ties() {
        String pots = "pot step 0 holds 9;pot step 0 holds 9;";
        String pipe = "pipe 0 to 1 bore 1 by right 100 bellows 99 life 1;";
        BellowsRow x = Due.made(pots + pipe + pipe + "run 5 at 0;run 1 at 10;");
        // LOAD 10000 / 99 = 101 at once
        is("of one hour: goes", x.goes(1), 0);
        is("of one hour: the first PIPE", x.first(0), 0);
        is("without it", x.next(0, 0), 1);
        Due.tape(x, pots + pipe.replace("99", "200") + "run 5 at 0;run 1 at 10;");
        is("works", x.works(), 5);
        // LOAD 50: unlike only in HOUR 5, WEAR 1
        is("worn", x.goes(0), 5);
        is("by wear", x.why(0), 1);
        is("PIPES ahead of POTS", x.first(0), 0);
        is("POTS by number", x.next(0, 0), 100);
        is("POTS: its hour", x.next(0, 1), 5);
        Due.tape(x, pots + pipe.replace("99", "204") + "run 5 at 9;");
        is("works", x.works(), 4);
        is("LOAD 49 does not wear", x.wear(0, 4), 0);
        is("never", x.goes(0), -1);
        is("why never", x.why(0), -1);
        is("none first", x.first(0), -1);
        is("none first: hour", x.first(1), -1);
    }

    private static void wouldBes() {
        BellowsRow x = Due.made(ROW);
        is("under 0", x.under(2, 0), 11);
        // LOAD 100 in HOUR 0: it does not bow, but WEAR is 51
        is("under 6", x.under(2, 6), 0);
        // 3 3 3 4 3 4 3 4 3 4 4 10: LOAD 100 in HOUR 11, WEAR 51
        is("under -1", x.under(2, -1), 11);
        // the last 5: LOAD 50, WEAR 1
        is("under -6", x.under(2, -6), -1);
        is("under 999", x.under(2, 999), 0);
        is("under -999", x.under(2, -999), -1);
        is("under 1000", x.under(2, 1000), -2);
        is("under -1000", x.under(2, -1000), -2);
        is("under of none", x.under(3, 0), -2);
        // PRESSES that are cut to 999 are alike: PIPE 0 bows there anyhow
        is("under for 0", x.under(0, 999), 0);
        // LOAD below 50 at 4 and 5, at 11 so low that WEAR stays below 5: 1100 / HOLDS below 54: 21; 500 / 21: 23
        is("stay 2", x.stay(2), 11);
        is("stay of none", x.stay(3), -2);
        // capped at 5: WEAR 1 in 3, 5, 7, 9 (and none in 11): 4, below 5
        is("cap 2", x.cap(2), 5);
        // of life 4 they may not be 5
        is("cap 1", x.cap(1), 4);
        // all 4: WEAR 16 in HOUR 0, and no more
        is("cap 0", x.cap(0), 4);
        is("cap of none", x.cap(-1), -2);
        is("prop 0 true", x.prop(0, true), -1);
        is("prop 0 false", x.prop(0, false), 8);
        is("prop 1 false", x.prop(1, false), 0);
        is("prop 1 true", x.prop(1, true), 9);
        is("prop of none", x.prop(3, true), -2);
        is("widen to as much", x.widen(0, 2), 8);
        // bore 1: 22800 and 28 times PRESS through 700: LOAD 32
        is("widen 1", x.widen(0, 1), -1);
        // bore 4: 91200 through 700: 130
        is("widen 4", x.widen(0, 4), 0);
        is("widen 40", x.widen(0, 40), 0);
        is("widen 0", x.widen(0, 0), -2);
        is("widen 41", x.widen(0, 41), -2);
        is("widen of none", x.widen(3, 1), -2);
    }

    private static void bounds() {
        String pots = "pot step 0 holds 9;pot step 0 holds 9;";
        BellowsRow x = Due.made(pots + "pipe 0 to 1 bore 40 by up 1 right 100 down 1 bellows 0 life 1;"
            + "pipe 0 to 1 bore 1 by right 100 bellows 0 life 1;" + "run 1 at 999;");
        // LEVER 1 + 100 - 1; NEED far above 100 times 30000
        is("no stay is enough", x.stay(0), -1);
        is("stay at PRESS 999", x.stay(1), 201);
        is("no cap is enough", x.cap(0), -1);
        // without HOLDS the least NEED bows
        is("no cap either", x.cap(1), -1);
        Due.tape(x, pots + "pipe 0 to 1 bore 1 by right 100 bellows 0 life 1;");
        is("works", x.works(), 3);
        is("without HOURS none goes", x.goes(0), -1);
        is("without HOURS: stay", x.stay(0), 0);
        is("without HOURS: cap", x.cap(0), 999);
        // NEED 999 times 30 times 100: it takes HOLDS 59940 for LOAD 50, 61164 for LOAD 49
        Due.tape(x, pots + "pipe 0 to 1 bore 1 by up 15 right 100 down 15 bellows 0 life 2 prop;run 1 at 600;");
        is("works", x.works(), 4);
        // NEED 60000 through 50: LOAD 50 wears 1 of 2: HOLDS above 60000 / 51
        is("stay so that it wears once", x.stay(0), 1177);
        is("cap of no HOLDS", x.cap(0), 0);
        Due.tape(x, pots + "pipe 0 to 1 bore 7 by up 900 right 100 down 900 bellows 30000 life 1 prop stay 30000;run 1 at 612;");
        is("works", x.works(), 4);
        // NEED 612 * 4900 = 2998800 through 60000: LOAD 49
        is("holds", x.goes(0), -1);
        is("under 1", x.under(0, 1), 0);
        is("under 387", x.under(0, 387), 0);
        is("cap above all", x.cap(0), 999);
        hoursAlike();
        mostStay();
        swings();
    }

    /** LEVER 41 and 75, bore 10: NEED 3029900 and 3030000, that is 101 times 29999 and one more, and 101 times 30000. */
    private static void mostStay() {
        String ahead = "pot step 0 holds 9;pot step ";
        BellowsRow x = Due.made(ahead + "41 holds 9;pipe 0 to 1 bore 10 by down 41 right 100 bellows 0 life 9999 prop;run 1 at 739;");
        is("need", x.need(0, 739), 3029900);
        is("stay 30000", x.stay(0), 30000);
        Due.tape(x, ahead + "75 holds 9;pipe 0 to 1 bore 10 by down 75 right 100 bellows 0 life 9999 prop;run 1 at 404;");
        is("works", x.works(), 4);
        is("need", x.need(0, 404), 3030000);
        is("stay 30001 is not to be had", x.stay(0), -1);
        Due.tape(x, ahead + "75 holds 9;pipe 0 to 1 bore 10 by down 75 right 100 bellows 1 life 9999 prop;run 1 at 404;");
        is("works", x.works(), 4);
        is("stay 30000 beside bellows", x.stay(0), 30000);
    }

    private static void swings() {
        BellowsRow x = Due.made("pot step 0 holds 5;swing 5 and 6 for 1;run 1 at 3;swing 4 and 6 for 2;swing 7 and 1 for 3;");
        int[] press = {5, 3, 4, 6, 7, 1, 7};
        for (int h = 0; h < press.length; h++) {
            is("swing press " + h, x.press(h), press[h]);
        }
        is("bursts in the second of two", x.bursts(0), 3);
        is("hours", x.count(2), 7);
        BellowsRow y = Due.made("pot step 0 holds 5;" + "run 1 at 0;".repeat(58) + "run 1 at 6;");
        is("sixty lines", y.count(7), 60);
        is("the last hour", y.press(58), 6);
        is("bursts in it", y.bursts(0), 58);
        BellowsRow z = Due.made("run 1 at 0;".repeat(59) + "swing 8 and 9 for 2;");
        is("the last line's hours", z.press(60), 9);
    }

    /** PRESSES that a bound makes alike wear no more. */
    private static void hoursAlike() {
        BellowsRow x = Due.made("pot step 0 holds 9;pot step 0 holds 9;"
            + "pipe 0 to 1 bore 1 by up 5 right 100 down 5 bellows 1998 life 3 prop;swing 999 and 998 for 9;");
        // LOAD 50 at 999, 49 at 998
        is("goes", x.goes(0), 4);
        is("all 999 by the bound", x.under(0, 1), -1);
        is("one less", x.under(0, -1), -1);
        is("cap", x.cap(0), 998);
        is("stay", x.stay(0), 1);
        Due.tape(x, "pot step 0 holds 9;pot step 0 holds 9;pipe 0 to 1 bore 1 by right 100 bellows 200 life 1;run 9 at 0;run 2 at 3;");
        is("works", x.works(), 5);
        is("first unlike PRESS", x.goes(0), 9);
        is("all unlike 0", x.under(0, 1), 0);
        is("all 0", x.under(0, -3), -1);
        is("all 0 by the cap", x.cap(0), 0);
    }

    private static void levers() {
        BellowsRow x = Due.made(ROW);
        is("lever of nothing", x.lever(0, 0), -6);
        is("lever of nothing, no pipe", x.lever(0, 3), -2);
        is("no slot", x.lever(4, 0), -2);
        is("no slot -1", x.lever(-1, 0), -2);
        x.row(0, 1, 5);
        long[] moves = {0, 200, 2, 28, 77};
        for (int i = 0; i < 5; i++) {
            x.write(0, i, moves[i]);
        }
        is("right, down", x.lever(0, 0), 200);
        is("no such pipe", x.lever(0, 3), -2);
        is("not to POT 1", x.lever(0, 1), -5);
        x.write(0, 0, 2);
        x.write(0, 1, 28);
        x.write(0, 2, 0);
        x.write(0, 3, 200);
        // at 0, -28: comes by down, goes on by right: along -1: less 28
        is("down, right", x.lever(0, 0), 28);
        x.write(0, 2, 3);
        is("no way", x.lever(0, 0), -2);
        x.write(0, 2, -1);
        is("no way -1", x.lever(0, 0), -2);
        x.write(0, 2, 0);
        x.write(0, 3, 0);
        is("not far", x.lever(0, 0), -2);
        x.write(0, 3, 901);
        is("too far", x.lever(0, 0), -2);
        x.write(0, 3, 900);
        is("too far for it", x.lever(0, 0), -5);
        x.row(1, 3, 1);
        is("one left over alone", x.lever(1, 0), -2);
        x.row(1, 3, 0);
        is("none", x.lever(1, 0), -2);
        x.row(2, 2, 17);
        for (int i = 0; i < 7; i++) {
            x.write(2, 2 * i, 0);
            x.write(2, 2 * i + 1, i == 0 ? 80 : 20);
        }
        x.write(2, 14, 2);
        x.write(2, 15, 28);
        is("eight", x.lever(2, 0), 200);
        x.row(2, 2, 18);
        for (int i = 0; i < 9; i++) {
            x.write(2, 2 * i, i == 8 ? 2 : 0);
            x.write(2, 2 * i + 1, i == 8 ? 28 : 25);
        }
        is("nine", x.lever(2, 0), -2);
    }

    private static void trials() {
        BellowsRow x = Due.made(ROW);
        is("trial 10", x.trial(10), 0);
        is("trial 11", x.trial(11), 2);
        is("trial 224", x.trial(224), 2);
        is("trial 225", x.trial(225), 3);
        is("trial 999", x.trial(999), 3);
        is("trial 1000", x.trial(1000), -2);
        is("trial -1", x.trial(-1), -2);
        is("show", x.show(), 225);
        String pots = "pot step 0 holds 9;pot step 0 holds 9;";
        Due.tape(x, pots + "pipe 0 to 1 bore 1 by up 5 right 100 down 5 bellows 10 life 9999 prop;run 1 at 1;");
        is("works", x.works(), 4);
        is("one that does not go is not shown", x.trial(999), 0);
        is("show none", x.show(), 0);
        Due.tape(x, pots + "pipe 0 to 1 bore 1 by right 100 bellows 101 life 1;run 1 at 1;");
        is("works", x.works(), 4);
        is("goes by wear", x.why(0), 1);
        is("one that never bows is not shown", x.trial(999), 0);
        is("show none of it", x.show(), 0);
    }

    private static void clouds() {
        BellowsRow x = Due.made(ROW);
        is("reach 1", x.reach(0, 3, 1), 3);
        is("reach 10", x.reach(0, 3, 10), 10);
        is("reach 40", x.reach(0, 3, 40), 20);
        is("reach 60", x.reach(0, 3, 60), 24);
        is("reach 0", x.reach(0, 3, 0), -2);
        is("reach 61", x.reach(0, 3, 61), -2);
        is("reach in no hour", x.reach(0, 12, 1), -2);
        is("reach of none", x.reach(3, 0, 1), -2);
        BellowsRow far = Due.made("pot step 0 holds 9;pot step 0 holds 9;pipe 0 to 1 bore 35 by right 100 bellows 0 life 1;"
            + "pipe 0 to 1 bore 40 by right 100 bellows 0 life 1;run 1 at 600;run 1 at 999;");
        is("reach of 1050000", far.reach(0, 0, 50), 1024);
        is("reach of the most", far.reach(1, 1, 60), 1548);
        // HOUR 3: 14 away in minute 23 (reaches 15), in 22 16 away (reaches 14)
        is("lights", x.lights(0, 3), 23);
        is("lights in 8", x.lights(0, 8), 24);
        is("lights in 11", x.lights(0, 11), 20);
        is("lights of the next one", x.lights(1, 0), 49);
        is("lights not", x.lights(2, 0), -1);
        is("lights in no hour", x.lights(0, 12), -2);
        is("lights of none", x.lights(3, 0), -2);
        // 30 away is taken, 31 is not
        is("taken", x.taken(0, 3), 3);
        is("taken in 8", x.taken(0, 8), 1);
        is("taken in 11", x.taken(0, 11), 7);
        is("taken: no light", x.taken(2, 0), 0);
        is("taken in no hour", x.taken(0, -1), -2);
        is("taken of none", x.taken(3, 0), -2);
        is("lives by night", x.lives(0, 3), 12);
        is("lives by day", x.lives(0, 8), 7);
        is("lives in 11", x.lives(0, 11), 112);
        is("lives: no light", x.lives(2, 0), 0);
        is("lives in no hour", x.lives(0, 12), -2);
        is("lives of none", x.lives(3, 0), -2);
        is("when", x.when(0, 3, 2), 4);
        is("when one", x.when(0, 3, 1), 3);
        is("when all", x.when(0, 3, 200), 4);
        is("when of several", x.when(0, 0, 12), 0);
        is("when 8 on", x.when(0, 8, 4), 8);
        is("when 0", x.when(0, 0, 0), -2);
        is("when 201", x.when(0, 0, 201), -2);
        is("when in no hour", x.when(0, 12, 1), -2);
        is("when of none", x.when(3, 0, 1), -2);
        is("risk 2", x.risk(0, 3, 2), 15);
        is("risk all", x.risk(0, 0, 200), 194);
        is("risk one", x.risk(0, 11, 9), 112);
        is("risk 0", x.risk(0, 0, 0), -2);
        is("risk 201", x.risk(0, 0, 201), -2);
        is("risk in no hour", x.risk(0, -1, 1), -2);
        is("risk of none", x.risk(-1, 0, 1), -2);
        winds();
    }

    /** The same ROOM on each side, 60 from where the cloud begins: only the WAY there lights it soon. */
    private static void winds() {
        String ahead = "pot step 0 holds 9;pot step 0 holds 9;pot step 0 holds 9;"
            + "pipe 0 to 2 bore 1 by right 200 bellows 0 life 1;run 1 at 1;";
        String end = " day 1 night 1 flame;";
        // 60 - 6 m at most the root of m: 58 in minute 10 comes to 0, in 9 to 6 (3); right after 60: none
        is("right", Due.made(ahead + "wind right 6;room at 160 0" + end).lights(0, 0), 10);
        is("right, not left", Due.made(ahead + "wind right 6;room at 40 0" + end).lights(0, 0), -1);
        is("left", Due.made(ahead + "wind left 6;room at 40 0" + end).lights(0, 0), 10);
        is("left, not right", Due.made(ahead + "wind left 6;room at 160 0" + end).lights(0, 0), -1);
        is("up", Due.made(ahead + "wind up 6;room at 100 60" + end).lights(0, 0), 10);
        is("down", Due.made(ahead + "wind down 6;room at 100 60" + end).lights(0, 0), -1);
        is("no wind", Due.made(ahead + "room at 100 7" + end).lights(0, 0), 49);
        is("no wind, too far", Due.made(ahead + "room at 100 8" + end).lights(0, 0), -1);
        is("wind 0", Due.made(ahead + "wind up 0;room at 103 4" + end).lights(0, 0), 49);
        is("no flame", Due.made(ahead + "room at 100 0 day 1 night 1;").lights(0, 0), -1);
        // PRESS 0 reaches 0, and a ROOM 0 away is in it
        is("no press", Due.made(ahead.replace("at 1;", "at 0;") + "room at 100 0" + end).taken(0, 0), 1);
        is("down from below", Due.made(ahead + "wind down 6;room at 100 0" + end).moved(0, 0, 0, 100, -60), -1);
        is("lit in its first minute", Due.made(ahead + "wind down 50;room at 900 0" + end).moved(0, 0, 0, 100, -50), -1);
        String still = ahead.replace("at 1;", "at 0;");
        is("minute 60", Due.made(still + "wind right 6;room at 460 0" + end).lights(0, 0), 60);
        is("no minute 61", Due.made(still + "wind right 6;room at 466 0" + end).lights(0, 0), -1);
        is("lit from below", Due.made(ahead + "wind down 50;room at 900 0" + end).moved(0, 0, 0, 100, -500), -1);
    }

    private static void movedRooms() {
        BellowsRow x = Due.made(ROW);
        is("moved 1", x.moved(0, 3, 1, 0, 0), 9);
        is("moved flame", x.moved(0, 3, 0, 900, 500), 12);
        is("moved to where it is", x.moved(0, 3, 1, 176, 0), 0);
        is("moved 2 in", x.moved(0, 3, 2, 150, 0), -200);
        is("moved to the edges", x.moved(0, 3, 1, -500, -500), 9);
        is("moved to the far edges", x.moved(0, 3, 1, 999, 999), 9);
        is("moved x -501", x.moved(0, 3, 1, -501, 0), NOTHING);
        is("moved y -501", x.moved(0, 3, 1, 0, -501), NOTHING);
        is("moved x 1000", x.moved(0, 3, 1, 1000, 0), NOTHING);
        is("moved y 1000", x.moved(0, 3, 1, 0, 1000), NOTHING);
        is("moved no room", x.moved(0, 3, 3, 0, 0), NOTHING);
        is("moved room -1", x.moved(0, 3, -1, 0, 0), NOTHING);
        is("moved in no hour", x.moved(0, 12, 0, 0, 0), NOTHING);
        is("moved by none", x.moved(3, 0, 0, 0, 0), NOTHING);
        is("and it stands as before", x.lives(0, 3), 12);
        is("safest 0", x.safest(0, 3, 0), 0);
        is("safest no room", x.safest(0, 3, 3), -2);
        is("safest room -1", x.safest(0, 3, -1), -2);
        is("safest in no hour", x.safest(0, 12, 0), -2);
        is("safest by none", x.safest(-1, 3, 0), -2);
        BellowsRow y = Due.made("pot step 0 holds 9;pot step 0 holds 9;pipe 0 to 1 bore 40 by right 100 bellows 0 life 1;"
            + "run 1 at 999;room at 50 0 day 1 night 5 flame;room at 50 0 day 1 night 10;");
        // minute 1 reaches 199: from 399 away on it is not taken
        is("safest 400", y.safest(0, 0, 1), 400);
        is("safest moves nothing", y.lives(0, 0), 15);
        // wherever it lights, the other one is where the cloud begins
        is("safest flame", y.safest(0, 0, 0), 0);
        BellowsRow z = Due.made("pot step 0 holds 9;pot step 0 holds 9;pipe 0 to 1 bore 1 by right 100 bellows 0 life 1;"
            + "run 1 at 900;room at 50 0 day 1 night 5 flame;room at 350 0 day 1 night 10;room at 50 110 day 1 night 20 flame;");
        // minute 1 reaches 30: what is 60 away or less is taken
        is("as it stands", z.lives(0, 0), 5);
        // 0, 0 is 50 away: minute 3 reaches 51 and takes up to 102 away; the third is 110 away
        is("safest flame, of others", z.safest(0, 0, 0), 0);
        // 0, 0 is taken, 0, 100 is not
        is("safest of the third", z.safest(0, 0, 2), 100);
        BellowsRow w = Due.made("pot step 0 holds 9;pot step 0 holds 9;pipe 0 to 1 bore 40 by right 100 bellows 0 life 1;"
            + "run 1 at 999;room at 650 0 day 1 night 5 flame;room at 50 0 day 1 night 10;");
        // minute 10 reaches 632: of all places 900, 500 alone is more than 1264 away
        is("safest in the corner", w.safest(0, 0, 1), 900500);
    }

    private static void days() {
        BellowsRow x = Due.made("pot step 0 holds 9;pot step 0 holds 9;pipe 0 to 1 bore 1 by right 100 bellows 0 life 1;"
            + "run 1000 at 1;run 1000 at 1;room at 50 0 day 1 night 100 flame;");
        int[] hours = {0, 7, 8, 16, 17, 23, 24, 32, 4 * 24 + 16, 5 * 24 + 8, 6 * 24 + 16, 7 * 24 + 7, 7 * 24 + 8, 1999};
        int[] lives = {100, 100, 1, 1, 100, 100, 100, 1, 1, 100, 100, 100, 1, 100};
        for (int i = 0; i < hours.length; i++) {
            is("lives in hour " + hours[i], x.lives(0, hours[i]), lives[i]);
        }
        is("when of the week's end", x.when(0, 5 * 24, 57), 7 * 24 + 8);
        is("risk of a day", x.risk(0, 0, 24), 15 * 100 + 9);
        is("risk as far as there are", x.risk(0, 1990, 200), 1000);
        is("when as far as there are", x.when(0, 1999, 200), 1999);
        is("risk of 200", x.risk(0, 0, 200), (200 - 54) * 100 + 54);
        is("no hour 2000", x.lives(0, 2000), -2);
    }

    private static void asking() {
        BellowsRow x = Due.made(ASKING);
        is("whole", x.whole(), 2);
        is("staying 0", x.staying(0), 1);
        is("staying 1", x.staying(1), 0);
        is("staying 2", x.staying(2), 0);
        is("staying 3", x.staying(3), -2);
        is("staying -1", x.staying(-1), -2);
        int[][] asked = {{8, 0, 1, 1}, {9, 0, 0, 0}, {2, 4, 0, 4}, {0, 8, 0, 0}};
        for (int c = 0; c < 4; c++) {
            for (int what = 0; what < 4; what++) {
                is("asked " + c + " " + what, x.asked(c, what), asked[c][what]);
            }
        }
        is("asked 4", x.asked(4, 0), -2);
        is("asked -1", x.asked(-1, 0), -2);
        is("asked what 4", x.asked(0, 4), -2);
        is("asked what -1", x.asked(0, -1), -2);
        int[][] who = {{0, 9, 0}, {0, 10, -1}, {0, 20, -1}, {0, 21, 0}, {1, 10, 2}, {1, 5, 0}, {2, 5, -1}, {2, 6, 2}, {3, 0, 1}, {3, 1, 1}, {3, 2, 1}, {3, 999, 1},
            {4, 0, -2}, {-1, 0, -2}, {0, -1, -2}, {0, 1000, -2}};
        for (int[] w : who) {
            is("who " + w[0] + " on " + w[1], x.who(w[0], w[1]), w[2]);
        }
        is("held 9", x.held(9, false), 2);
        is("held 8", x.held(8, false), 0);
        is("held 8 vain", x.held(8, true), 0);
        is("held 11 vain", x.held(11, true), 2);
        is("held all", x.held(65535, false), 4);
        is("held all vain", x.held(65535, true), 4);
        is("held of KINDS", x.held(96 + 2048, false), 2);
        is("held 0", x.held(0, false), 0);
        is("held -1", x.held(-1, false), -2);
        is("held 65536", x.held(65536, false), -2);
    }

    private static void leastRules() {
        BellowsRow x = Due.made(ASKING);
        int[] sets = {0, 2048, 9, 2057, 2057, 2153, 2153};
        for (int n = 0; n < sets.length; n++) {
            is("rules " + n, x.rules(n), sets[n]);
        }
        is("rules 16", x.rules(16), 2153);
        is("rules 17", x.rules(17), -2);
        is("rules -1", x.rules(-1), -2);
        BellowsRow y = Due.made("change pot day 0 needs draw;change pot day 0 needs push;change press day 0 needs metal gas;change pipe day 0 needs gas;");
        is("the fewest in vain", y.rules(1), 128);
        // pot draw and push: 2 held, 2 in vain; pot draw and pipe gas: 2 held, 1 in vain
        is("in vain, of two", y.rules(2), 129);
        is("of three", y.rules(3), 131);
        // press metal and gas, with pipe gas and one of pot: 3 held, 1 in vain; more is held by pot and pipe: 3 with 2 in vain
        is("of four", y.rules(4), 128 + 49152 + 1);
        is("of five", y.rules(5), 131 + 49152);
        BellowsRow z = Due.made("change prop day 0 needs gas;change prop day 0 needs gas draw;");
        is("more held ahead of vain", z.rules(2), 2304);
        is("at most one", z.rules(1), 2048);
    }

    private static void counts() {
        BellowsRow x = Due.made(ROW + ASKING);
        int[] counts = {3, 3, 12, 3, 3, 4, 45, 24, 0, 0};
        for (int what = 0; what < counts.length; what++) {
            is("count " + what, x.count(what), counts[what]);
        }
        is("count 10", x.count(10), -1);
        is("count -1", x.count(-1), -1);
        x.feed(0, 0, 0, 0, 0);
        x.row(3, 0, 0);
        x.row(1, 0, 60);
        x.row(1, 0, 6);
        is("count 8", x.count(8), 20);
        is("count 9", x.count(9), 2);
    }

    private static void rows() {
        BellowsRow x = Due.made(ROW);
        is("row of no slot", x.row(4, 0, 1), -2);
        is("row of slot -1", x.row(-1, 0, 1), -2);
        is("row of no width", x.row(0, 4, 1), -2);
        is("row of width -1", x.row(0, -1, 1), -2);
        is("row of 61", x.row(0, 0, 61), -2);
        is("row of -1", x.row(0, 0, -1), -3);
        is("row of -1, no slot", x.row(4, 0, -1), -2);
        is("none has come", x.count(9), 0);
        is("write of nothing", x.write(0, 0, 1L), -6);
        is("write to no slot", x.write(4, 0, 1L), -2);
        is("row of 60", x.row(0, 1, 60), 0);
        is("judge none alike", x.judge(0), 0);
        for (int i = 0; i < 12; i++) {
            is("write", x.write(0, i, x.press(i)), 0);
        }
        is("judge beyond HOURS", x.judge(0), 12);
        is("row of -1 stays", x.row(0, 0, -1), -3);
        is("stayed", x.judge(0), 12);
        is("write 60", x.write(0, 60, 1L), -7);
        is("write -1", x.write(0, -1, 1L), -7);
        is("write 59", x.write(0, 59, 1L), 0);
        x.write(0, 7, 4L);
        is("judge ahead of an unlike one", x.judge(0), 7);
        // cut to two bytes
        x.write(0, 7, 65536L * 9 + 5);
        is("judge cut", x.judge(0), 12);
        is("judge no slot", x.judge(4), -2);
        is("judge slot -1", x.judge(-1), -2);
        is("judge nothing", x.judge(1), -6);
        x.row(1, 3, 3);
        x.write(1, 0, 4L);
        x.write(1, 1, 4L);
        x.write(1, 2, 4L + (1L << 32));
        is("judge of 8 bytes", x.judge(1), 2);
        x.row(1, 2, 3);
        x.write(1, 0, 4L);
        x.write(1, 1, 4L);
        x.write(1, 2, 4L + (1L << 32));
        is("judge of 4 bytes: all of a row", x.judge(1), 3);
        x.row(1, 2, 3);
        is("a new row is all 0", x.judge(1), 0);
        others();
        pastes();
    }

    private static void others() {
        BellowsRow x = Due.made(ROW);
        is("other of nothing", x.other(0, 0), -6);
        is("other of nothing, no pipe", x.other(0, 3), -2);
        is("other of no slot", x.other(4, 0), -2);
        x.row(0, 0, 4);
        is("all 0: never", x.other(0, 2), -1);
        x.write(0, 2, 11);
        is("bows in 2", x.other(0, 2), 2);
        // one byte, with its sign: -56, cut to 0
        x.write(0, 2, 200);
        is("below 0 is 0", x.other(0, 2), -1);
        x.row(0, 3, 2);
        x.write(0, 1, Long.MAX_VALUE);
        is("above 999 is 999", x.other(0, 2), 1);
        is("PIPE 0 at 999", x.other(0, 0), 1);
        x.write(0, 1, Long.MIN_VALUE);
        is("far below 0", x.other(0, 2), -1);
        x.row(0, 3, 0);
        is("no HOURS", x.other(0, 2), -1);
        x.row(0, 1, 60);
        for (int i = 0; i < 60; i += 2) {
            x.write(0, i, 5L);
        }
        // WEAR 1 in 0, 2, 4, 6, 8
        is("wears out", x.other(0, 2), 8);
        is("HOURS stay as they are", x.goes(2), 11);
    }

    private static void pastes() {
        BellowsRow x = Due.made("run 3 at 1;run 3 at 2;");
        is("paste no slot", x.paste(4, 0, 0, 0, 1), -2);
        is("paste to no slot", x.paste(0, 0, -1, 0, 1), -2);
        is("paste nothing", x.paste(0, 0, 1, 0, 1), -6);
        x.row(0, 1, 6);
        is("paste to nothing", x.paste(0, 0, 1, 0, 1), -6);
        x.row(1, 2, 6);
        is("paste unlike widths", x.paste(0, 0, 1, 0, 1), -8);
        is("paste unlike widths, beyond", x.paste(0, 9, 1, 0, -1), -8);
        x.row(1, 1, 4);
        for (int i = 0; i < 6; i++) {
            x.write(0, i, i < 3 ? 1L : 2L);
        }
        is("paste", x.paste(0, 1, 1, 0, 4), 0);
        // 1 1 2 2
        is("pasted", x.judge(1), 2);
        is("paste beyond source", x.paste(0, 3, 1, 0, 4), -7);
        is("paste beyond target", x.paste(0, 0, 1, 1, 4), -7);
        is("paste below source", x.paste(0, -1, 1, 0, 1), -7);
        is("paste below target", x.paste(0, 0, 1, -1, 1), -7);
        is("paste n below", x.paste(0, 0, 1, 0, -1), -7);
        is("paste far beyond", x.paste(0, 2147483647, 1, 0, 2147483647), -7);
        is("nothing happened", x.judge(1), 2);
        is("paste none at the end", x.paste(0, 6, 1, 4, 0), 0);
        // its own row, one further: 1 1 1 1 2 2, as they were
        is("paste to itself", x.paste(0, 0, 0, 1, 5), 0);
        is("pasted to itself", x.judge(0), 3);
        is("paste back", x.paste(0, 1, 0, 0, 5), 0);
        is("pasted back", x.judge(0), 6);
        is("paste one", x.paste(0, 0, 0, 4, 1), 0);
        is("pasted one", x.judge(0), 4);
    }

    private static void images() {
        BellowsRow x = Due.made(ROW);
        is("keep 3", x.keep(3), -2);
        is("keep -1", x.keep(-1), -2);
        is("back 3", x.back(3), -2);
        is("back -1", x.back(-1), -2);
        is("back of nothing", x.back(0), -6);
        is("keep 0", x.keep(0), 0);
        Due.tape(x, ASKING);
        is("works", x.works(), 10);
        is("keep 2", x.keep(2), 0);
        x.row(0, 0, 5);
        x.feed(0, 0, 0, 0, 0);
        is("back 0", x.back(0), 0);
        is("as they were: lines", x.count(7), 14);
        is("as they were: goes", x.goes(0), 8);
        is("as they were: lives", x.lives(0, 3), 12);
        is("as they were: no changes", x.count(5), 0);
        is("TAPE stays", x.count(8), 20);
        is("SLOTS stay", x.count(9), 1);
        is("back 1", x.back(1), -6);
        is("back 2", x.back(2), 0);
        is("whole", x.whole(), 2);
        is("no pots", x.count(0), 0);
        x.end(0);
        is("no works", x.works(), 0);
        is("back again", x.back(0), 0);
        is("back again: goes", x.goes(2), 11);
        is("keep over", x.keep(2), 0);
        is("works over", x.works(), 0);
        is("back over", x.back(2), 0);
        is("kept over", x.count(0), 3);
    }
}
