/** Promises 1 to 26 by their sentences: the last value inside each bound, the first outside it, and refused calls. */
public final class PipeEdgesTest {
    private static final Said SAID = new Said("PipeEdgesTest");
    private static final int NOTHING = Texts.NOTHING;
    private static final String POT = Texts.POT;

    private static void is(String call, long got, long want) {
        SAID.is(call, got, want);
    }

    public static void main(String[] args) {
        newObject();
        feed();
        feedsFull();
        end();
        works();
        worksFaulty();
        fault();
        height();
        pipe();
        bend();
        need();
        load();
        bows();
        press();
        wear();
        goesAndWhy();
        whyAlone();
        bursts();
        first();
        next();
        under();
        stay();
        cap();
        prop();
        widen();
        lever();
        leverRefused();
        trial();
        show();
        String[] all = new String[26];
        for (int i = 0; i < 26; i++) {
            all[i] = String.valueOf(i + 1);
        }
        SAID.end(all);
    }

    private static void newObject() {
        SAID.says("1", "No WORKS: no POTS, no PIPES, nothing.");
        BellowsRow other = Due.made(Texts.pushed(100, 1) + "run 1 at 101;" + Texts.flame(50, 0, 1) + "person knows gas;rule pot asks gas;change pot day 0 needs gas;");
        other.row(0, 0, 1);
        other.keep(0);
        BellowsRow x = new BellowsRow();
        for (int what = 0; what <= 9; what++) {
            is("count " + what, x.count(what), 0);
        }
        is("fault", x.fault(0), 0);
        is("place", x.fault(1), -1);
        is("height", x.height(0), NOTHING);
        is("bend", x.bend(0, 0, 0), NOTHING);
        is("need", x.need(0, 0), -2);
        is("load", x.load(0, 0), -2);
        is("bows", x.bows(0), -2);
        is("press", x.press(0), -2);
        is("wear", x.wear(0, 0), -2);
        is("goes", x.goes(0), -2);
        is("why", x.why(0), -2);
        is("bursts", x.bursts(0), -2);
        is("first", x.first(0), -1);
        is("first's HOUR", x.first(1), -1);
        is("next to a PIPE", x.next(0, 0), -2);
        is("next to a POT", x.next(100, 0), -2);
        is("under", x.under(0, 0), -2);
        is("stay", x.stay(0), -2);
        is("cap", x.cap(0), -2);
        is("prop", x.prop(0, true), -2);
        is("widen", x.widen(0, 1), -2);
        is("trial", x.trial(999), 0);
        is("show", x.show(), 0);
        is("reach", x.reach(0, 0, 1), -2);
        is("moved", x.moved(0, 0, 0, 0, 0), NOTHING);
        is("safest", x.safest(0, 0, 0), -2);
        is("whole", x.whole(), 0);
        is("staying", x.staying(0), -2);
        is("asked", x.asked(0, 0), -2);
        is("who", x.who(3, 0), -1);
        is("rules", x.rules(16), 0);
        is("held", x.held(65535, false), 0);
        is("in vain", x.held(65535, true), 0);
        is("judge", x.judge(0), -6);
        is("back", x.back(0), -6);
        for (int what = 0; what <= 7; what++) {
            is("pipe " + what, x.pipe(0, what), NOTHING);
        }
    }

    private static void feed() {
        SAID.says("2", "Twenty bytes come behind the TAPE, four of each number, the highest first: how many it has;");
        BellowsRow x = new BellowsRow();
        int[] f = Due.feeds(Due.bytes("swing 12 and 34for5;"))[0];
        is("the first", x.feed(f[0], f[1], f[2], f[3], f[4]), 20);
        is("how many", x.count(8), 20);
        int[] g = Due.feeds(Due.bytes("swing 67 and 89for3;"))[0];
        is("behind it", x.feed(g[0], g[1], g[2], g[3], g[4]), 40);
        is("read", x.works(), 2);
        int[] press = {12, 34, 12, 34, 12, 67, 89, 67};
        for (int h = 0; h < press.length; h++) {
            is("press " + h, x.press(h), press[h]);
        }
        is("behind an empty TAPE", x.feed(0x20202020, 0x20202020, 0x20202020, 0x20202020, 0x202020ff), 20);
        is("FAULT at the last byte", x.works(), -4);
        is("its place", x.fault(1), 19);
        for (int i = 0; i < 20; i++) {
            byte[] one = Due.bytes(" ".repeat(20));
            one[i] = (byte) 200;
            int[] h = Due.feeds(one)[0];
            BellowsRow y = new BellowsRow();
            y.feed(h[0], h[1], h[2], h[3], h[4]);
            y.works();
            is("place of byte " + i, y.fault(1), i);
        }
    }

    private static void feedsFull() {
        SAID.says("2", "NONE, and none come, if it would have more than 1,600.");
        BellowsRow x = new BellowsRow();
        for (int i = 0; i < 79; i++) {
            x.feed(0x20202020, 0x20202020, 0x20202020, 0x20202020, 0x20202020);
        }
        is("1,580", x.count(8), 1580);
        int[] last = Due.feeds(Due.bytes("rule press asks gas;"))[0];
        is("1,600", x.feed(last[0], last[1], last[2], last[3], last[4]), 1600);
        is("1,620", x.feed(-1, -1, -1, -1, -1), -1);
        is("none came", x.count(8), 1600);
        is("what there was is there", x.works(), 1);
        is("and is read", x.count(6), 32768);
        BellowsRow y = new BellowsRow();
        for (int i = 0; i < 80; i++) {
            y.feed(0x20202020, 0x20202020, 0x20202020, 0x20202020, 0x20202020);
        }
        is("end", y.end(1581), 1581);
        is("1,601", y.feed(-1, -1, -1, -1, -1), -1);
        is("none came to 1,581", y.count(8), 1581);
        is("end again", y.end(1580), 1580);
        is("1,600 again", y.feed(-1, -1, -1, -1, -1), 1600);
        is("they came", y.works(), -4);
        is("behind the others", y.fault(1), 1580);
    }

    private static void end() {
        SAID.says("3", "The TAPE has its first n bytes alone: n;");
        BellowsRow x = new BellowsRow();
        is("none of none", x.end(0), 0);
        Due.tape(x, "run 1 at 123456;    ");
        is("all", x.end(20), 20);
        is("all are there", x.count(8), 20);
        is("a part", x.end(12), 12);
        is("it is there", x.count(8), 12);
        int[] f = Due.feeds(Due.bytes(";run 1 at 7;        "))[0];
        is("feed behind the part", x.feed(f[0], f[1], f[2], f[3], f[4]), 32);
        is("read", x.works(), 2);
        is("the first bytes", x.press(0), 123);
        is("those behind", x.press(1), 7);
        Due.tape(x, "run 1 at 5;");
        is("none of some", x.end(0), 0);
        is("no TAPE", x.count(8), 0);
        is("reads nothing", x.works(), 0);
        SAID.says("3", "NONE, and nothing happens, if it has not so many, or n is below 0.");
        BellowsRow y = new BellowsRow();
        is("1 of none", y.end(1), -1);
        Due.tape(y, "run 1 at 5; # ");
        is("14", y.count(8), 14);
        for (int n : Texts.outside(0, 14)) {
            is("end " + n, y.end(n), -1);
            is("TAPE behind end " + n, y.count(8), 14);
        }
        is("end 13", y.end(13), 13);
        is("what was cut off does not come back", y.end(14), -1);
        is("nor here", y.count(8), 13);
        is("end 11", y.end(11), 11);
        is("reads", y.works(), 1);
        for (int i = 0; i < 80; i++) {
            y.feed(0, 0, 0, 0, 0);
        }
        is("1,601 of a full one", y.end(1601), -1);
        is("full", y.count(8), 1600);
        is("1,600 of a full one", y.end(1600), 1600);
    }

    private static void works() {
        SAID.says("4", "The TAPE (empty then) is the WORKS (in place of others): how many LINES.");
        String text = Texts.pushed(100, 1) + "run 1 at 101;wind up 5;" + Texts.flame(50, 0, 1) + "person knows gas;rule pot asks gas;change pot day 0 needs gas;";
        BellowsRow x = new BellowsRow();
        Due.tape(x, text);
        is("bytes", x.count(8), text.length());
        is("LINES", x.works(), 9);
        is("LINES again", x.count(7), 9);
        is("empty then", x.count(8), 0);
        Due.tape(x, "wind down 3;");
        is("others", x.works(), 1);
        for (int what = 0; what <= 6; what++) {
            is("none left of " + what, x.count(what), 0);
        }
        is("no HOUR left", x.press(0), -2);
        is("nobody left", x.who(3, 0), -1);
        is("LINES of the others", x.count(7), 1);
        Due.tape(x, POT + POT + Texts.FLAT + "run 1 at 0;" + Texts.flame(50, 6, 1));
        is("once more", x.works(), 5);
        is("no wind left", x.lights(0, 0), -1);
        is("an empty TAPE", x.works(), 0);
        is("no LINES", x.count(7), 0);
        is("no POTS", x.count(0), 0);
        BellowsRow full = new BellowsRow();
        Due.tape(full, "rule pot asks gas;".repeat(60) + " ".repeat(520));
        is("a full TAPE", full.works(), 60);
        is("empty too", full.count(8), 0);
        Due.tape(full, " ".repeat(1589) + "run 1 at 7;");
        is("up to the last byte", full.works(), 1);
        is("its HOUR", full.press(0), 7);
    }

    private static void worksFaulty() {
        SAID.says("4", "-4: a FAULT (all stays).");
        BellowsRow x = Due.made(Texts.pushed(100, 1) + "run 1 at 101;wind up 1;" + Texts.flame(50, 1, 4) + "person knows gas;rule pot asks gas;change pot day 0 needs gas;");
        x.row(1, 0, 1);
        x.keep(2);
        int[] counts = {2, 1, 1, 1, 1, 1, 8, 9};
        String faulty = "pot step 5 holds 1;run 2 at 7;wind down 3;room at 1 1 day 1 night 1;person knows draw;rule pot asks draw;change pot day 0 needs draw;pot";
        Due.tape(x, faulty);
        is("faulty", x.works(), -4);
        for (int what = 0; what < counts.length; what++) {
            is("stays: count " + what, x.count(what), counts[what]);
        }
        is("stays: height", x.height(0), 0);
        is("stays: press", x.press(0), 101);
        is("stays: goes", x.goes(0), 0);
        is("stays: lights", x.lights(0, 0), 1);
        is("stays: lives", x.lives(0, 0), 4);
        is("stays: whole", x.whole(), 1);
        is("stays: SLOTS", x.count(9), 1);
        is("stays: IMAGES", x.back(0), -6);
        is("stays: TAPE", x.count(8), faulty.length());
        is("stays: its bytes", x.works(), -4);
        is("at the same place", x.fault(1), faulty.length());
        is("without what was wrong", x.end(faulty.length() - 3), faulty.length() - 3);
        is("it is read", x.works(), 7);
        is("in place of the others", x.height(0), -5);
        is("stays: IMAGE 2", x.back(2), 0);
        is("as it was", x.goes(0), 0);
    }

    private static void fault() {
        SAID.says("5", "Of the latest works(), what 0: its FAULT, 0 without, 1: its place (NONE without).");
        BellowsRow x = new BellowsRow();
        String[] texts = {"#", "run 1 at 1000;", "wind up 1;", "rule pot asks gas;".repeat(61), "", "run 1"};
        int[] faults = {1, 2, 0, 3, 0, 1};
        int[] places = {0, 9, -1, 1080, -1, 5};
        for (int i = 0; i < texts.length; i++) {
            Due.tape(x, texts[i]);
            x.works();
            is("FAULT of " + i, x.fault(0), faults[i]);
            is("place of " + i, x.fault(1), places[i]);
            x.keep(0);
            x.back(0);
            x.end(0);
            x.feed(0, 0, 0, 0, 0);
            is("still FAULT of " + i, x.fault(0), faults[i]);
            is("still place of " + i, x.fault(1), places[i]);
        }
        SAID.says("5", "NONE for another what, and ahead of any (what 1).");
        BellowsRow y = new BellowsRow();
        is("ahead of any", y.fault(1), -1);
        is("ahead of any, what 0", y.fault(0), 0);
        for (int round = 0; round < 3; round++) {
            for (int what : Texts.outside(0, 1)) {
                is("what " + what + ", round " + round, y.fault(what), -1);
            }
            Due.tape(y, round == 0 ? "pot" : "");
            y.works();
        }
    }

    private static void height() {
        SAID.says("6", "Height of a POT. NOTHING (-2,000,000,000): there is none such.");
        BellowsRow none = new BellowsRow();
        is("none", none.height(0), NOTHING);
        BellowsRow one = Due.made("pot step 7 holds 9;");
        is("the one", one.height(0), -7);
        for (int pot : Texts.outside(0, 0)) {
            is("height " + pot, one.height(pot), NOTHING);
        }
        BellowsRow all = Due.made("pot step 99 holds 9;".repeat(8));
        is("the last", all.height(7), -792);
        for (int pot : Texts.outside(0, 7)) {
            is("height " + pot, all.height(pot), NOTHING);
        }
    }

    private static void pipe() {
        SAID.says("7", "Of a PIPE what 0: from which POT, 1: to which, 2: BENDS, 3: LENGTH, 4: WEIGHT, 5: LEVER, 6: the PIECE it was put round (NONE), 7: HOLDS, with stays.");
        String text = POT + POT + POT + "pipe 0 to 1 bore 3 by right 100 bellows 7 life 1;pipe 0 to 2 bore 2 by up 5 right 200 down 5 bellows 7 life 1 stay 30000;";
        BellowsRow x = Due.made(text);
        int[][] due = {{0, 1, 0, 100, 300, 0, -1, 7}, {0, 2, 2, 210, 420, 200, 1, 30007}};
        for (int k = 0; k < 2; k++) {
            for (int what = 0; what < 8; what++) {
                is("PIPE " + k + " what " + what, x.pipe(k, what), due[k][what]);
            }
        }
        SAID.says("7", "NOTHING for others.");
        for (int what : Texts.outside(0, 7)) {
            is("what " + what, x.pipe(1, what), NOTHING);
        }
        for (int k : Texts.outside(0, 1)) {
            is("PIPE " + k, x.pipe(k, 0), NOTHING);
        }
        BellowsRow all = Due.made(POT + POT + Texts.FLAT.repeat(12));
        is("the last", all.pipe(11, 1), 1);
        for (int k : Texts.outside(0, 11)) {
            is("PIPE " + k, all.pipe(k, 1), NOTHING);
        }
    }

    private static void bend() {
        SAID.says("8", "Of BEND i of a PIPE what 0: x, 1: y, 2: along, 3: across (II).");
        String text = POT + POT + "pipe 0 to 1 bore 1 by up 2 right 10 up 3 right 20 down 1 right 30 down 4 right 40 bellows 0 life 1;" + Texts.FLAT
            + "pipe 0 to 1 bore 1 by up 9 right 100 down 9 bellows 0 life 1;";
        BellowsRow x = Due.made(text);
        int[][] due = {{0, 2, -1, 1}, {10, 2, 1, -1}, {10, 5, -1, 1}, {30, 5, 1, 1}, {30, 4, -1, -1}, {60, 4, 1, 1}, {60, 0, -1, -1}};
        for (int i = 0; i < due.length; i++) {
            for (int what = 0; what < 4; what++) {
                is("BEND " + i + " what " + what, x.bend(0, i, what), due[i][what]);
            }
        }
        is("the last PIPE's last", x.bend(2, 1, 0), 100);
        SAID.says("8", "NOTHING for others.");
        for (int i : Texts.outside(0, 6)) {
            is("BEND " + i, x.bend(0, i, 0), NOTHING);
        }
        for (int i : Texts.outside(0, 1)) {
            is("BEND " + i + " of two", x.bend(2, i, 1), NOTHING);
        }
        for (int what : Texts.outside(0, 3)) {
            is("what " + what, x.bend(0, 0, what), NOTHING);
        }
        for (int k : Texts.outside(0, 2)) {
            is("PIPE " + k, x.bend(k, 0, 0), NOTHING);
        }
        is("no BENDS", x.bend(1, 0, 0), NOTHING);
        is("no BENDS, -1", x.bend(1, -1, 0), NOTHING);
    }

    private static void need() {
        SAID.says("9", "NEED of a PIPE at a PRESS (0 .. 999). -2: there are none such.");
        BellowsRow x = Due.made(Texts.pushed(1, 1) + Texts.pipe(1, 1));
        is("at 0", x.need(0, 0), 0);
        is("at 1", x.need(0, 1), 100);
        is("at 999", x.need(1, 999), 99900);
        for (int press : Texts.outside(0, 999)) {
            is("at " + press, x.need(0, press), -2);
        }
        for (int k : Texts.outside(0, 1)) {
            is("of " + k, x.need(k, 5), -2);
        }
    }

    private static void load() {
        SAID.says("10", "LOAD of a PIPE at a PRESS. -2 likewise.");
        BellowsRow x = Due.made(Texts.pushed(100, 1) + Texts.pipe(50, 1));
        is("at 0", x.load(0, 0), 0);
        is("at 1", x.load(0, 1), 1);
        is("at 999", x.load(0, 999), 999);
        is("of the other at 999", x.load(1, 999), 1998);
        for (int press : Texts.outside(0, 999)) {
            is("at " + press, x.load(0, press), -2);
        }
        for (int k : Texts.outside(0, 1)) {
            is("of " + k, x.load(k, 5), -2);
        }
    }

    private static void bows() {
        SAID.says("11", "The least PRESS (0 .. 999) at which a PIPE BOWS; NONE: none.");
        is("at 0", Due.made(Texts.weighty(101, 1)).bows(0), 0);
        is("at 0, of no HOLDS", Due.made(POT + POT + Texts.FLAT).bows(0), 0);
        is("at 1", Due.made(Texts.pushed(0, 1)).bows(0), 1);
        is("at 1, of some HOLDS", Due.made(Texts.pushed(0, 1).replace("bore 1", "bore 2").replace("bellows 0", "bellows 3")).bows(0), 1);
        is("between", Due.made(Texts.pushed(100, 1)).bows(0), 101);
        is("at 999", Due.made(Texts.pushed(989, 1)).bows(0), 999);
        is("none up to 999", Due.made(Texts.pushed(990, 1)).bows(0), -1);
        is("never", Due.made(Texts.weighty(100, 1)).bows(0), -1);
        SAID.says("11", "-2: there is none such.");
        for (int k : Texts.outside(0, 0)) {
            is("of " + k, Due.made(Texts.pushed(100, 1)).bows(k), -2);
        }
    }

    private static void press() {
        SAID.says("12", "PRESS in an HOUR. -2: there is none such.");
        BellowsRow x = Due.made("run 1 at 0;run 2 at 999;");
        is("HOUR 0", x.press(0), 0);
        is("HOUR 2", x.press(2), 999);
        for (int hour : Texts.outside(0, 2)) {
            is("HOUR " + hour, x.press(hour), -2);
        }
        BellowsRow all = Due.made("run 1000 at 5;swing 6 and 7 for 1000;");
        is("HOUR 999", all.press(999), 5);
        is("HOUR 1000", all.press(1000), 6);
        is("HOUR 1999", all.press(1999), 7);
        for (int hour : Texts.outside(0, 1999)) {
            is("HOUR " + hour, all.press(hour), -2);
        }
    }

    private static void wear() {
        SAID.says("13", "WEAR of a PIPE behind an HOUR, if it had not gone ahead of it (III). -2: there are none such.");
        BellowsRow x = Due.made(Texts.pushed(100, 1) + Texts.pipe(50, 1) + "swing 60 and 0 for 3;");
        is("behind 0", x.wear(0, 0), 11);
        is("behind 1", x.wear(0, 1), 11);
        is("behind 2", x.wear(0, 2), 22);
        is("of the other", x.wear(1, 2), 142);
        for (int hour : Texts.outside(0, 2)) {
            is("behind " + hour, x.wear(0, hour), -2);
        }
        for (int k : Texts.outside(0, 1)) {
            is("of " + k, x.wear(k, 0), -2);
        }
        is("without HOURS", Due.made(Texts.pushed(100, 1)).wear(0, 0), -2);
        BellowsRow all = Due.made(Texts.pushed(0, 1) + "swing 1 and 0 for 1000;swing 1 and 0 for 1000;");
        is("the most", all.wear(0, 1999), 1000 * 9951);
    }

    private static void goesAndWhy() {
        String[] texts = {"run 1 at 101;", "run 1 at 50;", "run 1 at 49;", "", "run 1000 at 0;run 999 at 0;run 1 at 999;", "run 1000 at 0;run 1000 at 0;"};
        int[] goes = {0, 0, -1, -1, 1999, -1};
        int[] why = {0, 1, -1, -1, 0, -1};
        for (int i = 0; i < texts.length; i++) {
            BellowsRow x = Due.made(Texts.pushed(100, 1) + texts[i]);
            SAID.says("14", "The HOUR in which a PIPE goes; NONE: never.");
            is("goes of " + texts[i], x.goes(0), goes[i]);
            SAID.says("15", "Why it goes: 0 by LOAD, 1 by WEAR; NONE: it does not.");
            is("why of " + texts[i], x.why(0), why[i]);
            for (int k : Texts.outside(0, 0)) {
                SAID.says("14", "-2: there is none such.");
                is("goes of " + k, x.goes(k), -2);
                SAID.says("15", "-2 likewise.");
                is("why of " + k, x.why(k), -2);
            }
        }
    }

    private static void whyAlone() {
        SAID.says("15", "Why it goes: 0 by LOAD, 1 by WEAR; NONE: it does not.");
        String text = Texts.pushed(100, 9999) + Texts.pipe(200, 2) + Texts.pipe(200, 1) + "run 1 at 101;";
        int[] due = {0, -1, 1};
        for (int k = 0; k < 3; k++) {
            is("why of " + k + " ahead of all", Due.made(text).why(k), due[k]);
        }
        BellowsRow x = Due.made(text);
        for (int k : new int[] {0, 1, 2, 1, 0, 2}) {
            is("why of " + k + " behind others", x.why(k), due[k]);
        }
    }

    private static void bursts() {
        SAID.says("16", "The HOUR in which a POT goes (PRESS above what it holds); NONE: never.");
        BellowsRow x = Due.made("pot step 0 holds 5;pot step 0 holds 6;pot step 0 holds 7;pot step 0 holds 8;pot step 0 holds 0;run 1 at 0;run 2 at 6;swing 6 and 8 for 2;");
        int[] due = {1, 4, 4, -1, 1};
        for (int pot = 0; pot < due.length; pot++) {
            is("POT " + pot, x.bursts(pot), due[pot]);
        }
        is("in HOUR 0", Due.made("pot step 0 holds 998;run 1 at 999;").bursts(0), 0);
        is("never at 999", Due.made("pot step 0 holds 999;run 1 at 999;").bursts(0), -1);
        is("in the last HOUR", Due.made("pot step 0 holds 3;run 1000 at 3;swing 3 and 4 for 1000;").bursts(0), 1001);
        is("in HOUR 1999", Due.made("pot step 0 holds 3;run 1000 at 3;run 999 at 3;run 1 at 4;").bursts(0), 1999);
        is("without HOURS", Due.made("pot step 0 holds 0;").bursts(0), -1);
        SAID.says("16", "-2 likewise.");
        for (int pot : Texts.outside(0, 4)) {
            is("POT " + pot, x.bursts(pot), -2);
        }
    }

    private static void first() {
        SAID.says("17", "Which goes FIRST (IV) what 0: PIPES by their numbers, POTS by 100 and theirs, 1: its HOUR; NONE: none, another what.");
        BellowsRow x = Due.made(Texts.pushed(100, 9999).replace("holds 999", "holds 500") + Texts.pipe(90, 9999) + "run 3 at 0;run 1 at 92;run 1 at 501;");
        is("a PIPE", x.first(0), 1);
        is("its HOUR", x.first(1), 3);
        for (int what : Texts.outside(0, 1)) {
            is("what " + what, x.first(what), -1);
        }
        BellowsRow pot = Due.made("pot step 0 holds 7;pot step 0 holds 6;run 1 at 0;run 1 at 7;");
        is("a POT", pot.first(0), 101);
        is("a POT's HOUR", pot.first(1), 1);
        is("POT 0", Due.made("pot step 0 holds 7;pot step 0 holds 7;run 1 at 8;").first(0), 100);
        is("its HOUR 0", Due.made("pot step 0 holds 7;pot step 0 holds 7;run 1 at 8;").first(1), 0);
        BellowsRow none = Due.made(Texts.pushed(100, 9999) + "run 1 at 100;");
        is("none", none.first(0), -1);
        is("none's HOUR", none.first(1), -1);
        for (int what : Texts.outside(0, 1)) {
            is("none's what " + what, none.first(what), -1);
        }
    }

    private static void next() {
        SAID.says("18", "Likewise, if a PIPE, or a POT (100 and its number), never went.");
        BellowsRow x = Due.made(Texts.pushed(100, 9999).replace("holds 999", "holds 500") + Texts.pipe(90, 9999) + "run 3 at 0;run 1 at 92;run 1 at 501;");
        is("without the first", x.next(1, 0), 0);
        is("its HOUR", x.next(1, 1), 4);
        is("without another PIPE", x.next(0, 0), 1);
        is("without a POT", x.next(100, 0), 1);
        is("without a POT, HOUR", x.next(101, 1), 3);
        for (int what : Texts.outside(0, 1)) {
            is("what " + what, x.next(1, what), -1);
            is("a POT, what " + what, x.next(100, what), -1);
        }
        BellowsRow pots = Due.made("pot step 0 holds 7;pot step 0 holds 6;pot step 0 holds 9;run 1 at 0;run 1 at 7;run 1 at 8;");
        is("without the first POT", pots.next(101, 0), 100);
        is("its HOUR 2", pots.next(101, 1), 2);
        is("without one that never goes", pots.next(102, 0), 101);
        BellowsRow one = Due.made("pot step 0 holds 7;run 1 at 8;");
        is("none but it", one.next(100, 0), -1);
        is("none but it, HOUR", one.next(100, 1), -1);
        SAID.says("18", "-2: there is none such.");
        for (int piece : new int[] {-1, 2, 3, 12, 50, 98, 99, 102, 103, 108, 200, Integer.MIN_VALUE, Integer.MAX_VALUE, 100 + 65536, Integer.MIN_VALUE + 100}) {
            is("PIECE " + piece, x.next(piece, 0), -2);
            is("PIECE " + piece + " HOUR", x.next(piece, 1), -2);
        }
        BellowsRow all = Due.made(POT.repeat(8) + Texts.FLAT.repeat(12) + "run 1 at 9;");
        is("PIPE 11", all.next(11, 0), 0);
        is("PIPE 12", all.next(12, 0), -2);
        is("POT 7", all.next(107, 0), 0);
        is("POT 8", all.next(108, 0), -2);
        is("99", all.next(99, 0), -2);
    }

    private static void under() {
        SAID.says("19", "The HOUR in which a PIPE would go, if all PRESSES were so much more (-999 .. 999; at least 0, at most 999); NONE: never.");
        BellowsRow x = Due.made(Texts.pushed(100, 9999) + "run 1 at 0;run 1 at 5;");
        is("95 more", x.under(0, 95), -1);
        is("96 more", x.under(0, 96), 1);
        is("100 more", x.under(0, 100), 1);
        is("101 more", x.under(0, 101), 0);
        is("999 more", x.under(0, 999), 0);
        is("none more", x.under(0, 0), -1);
        BellowsRow y = Due.made(Texts.pushed(100, 9999) + "run 1 at 0;run 1 at 999;");
        is("898 less", y.under(0, -898), 1);
        is("899 less", y.under(0, -899), -1);
        is("999 less", y.under(0, -999), -1);
        // at most 999: LOAD 100 there, 101 beyond
        BellowsRow most = Due.made(Texts.pushed(990, 9999) + "run 1 at 999;");
        is("1000 is 999", most.under(0, 1), -1);
        is("1998 is 999", most.under(0, 999), -1);
        BellowsRow just = Due.made(Texts.pushed(989, 9999) + "run 1 at 500;");
        is("998", just.under(0, 498), -1);
        is("999", just.under(0, 499), 0);
        is("1100 is 999, not less", just.under(0, 600), 0);
        // at most 999: alike then, so WEAR comes once
        BellowsRow alike = Due.made(Texts.pushed(1998, 2) + "swing 998 and 999 for 2;");
        is("both 999", alike.under(0, 1), -1);
        is("as they are", alike.under(0, 0), -1);
        // at least 0: HOUR 0 is not unlike 0 then
        BellowsRow least = Due.made(Texts.weighty(100, 1) + "run 1 at 5;");
        is("1", least.under(0, -4), 0);
        is("0", least.under(0, -5), -1);
        is("not below 0", least.under(0, -6), -1);
        is("not far below 0", least.under(0, -999), -1);
        is("without HOURS", Due.made(Texts.pushed(0, 1)).under(0, 999), -1);
        SAID.says("19", "-2: there are none such.");
        for (int more : Texts.outside(-999, 999)) {
            is("more " + more, x.under(0, more), -2);
        }
        for (int k : Texts.outside(0, 0)) {
            is("PIPE " + k, x.under(k, 0), -2);
        }
        is("HOURS stay", x.press(1), 5);
    }

    private static void stay() {
        SAID.says("20", "The least stay more (0 .. 30,000) with which a PIPE never goes; NONE: that is not enough.");
        is("none more", Due.made(Texts.pushed(100, 52) + "run 1 at 100;").stay(0), 0);
        is("1 more, for WEAR", Due.made(Texts.pushed(100, 51) + "run 1 at 100;").stay(0), 1);
        is("1 more, for LOAD", Due.made(Texts.pushed(100, 9999) + "run 1 at 101;").stay(0), 1);
        is("0 for no NEED", Due.made(Texts.pushed(0, 1) + "run 1 at 0;").stay(0), 0);
        is("0 without HOURS", Due.made(Texts.pushed(0, 1)).stay(0), 0);
        // NEED 3029900: through 29999 it is 101, through 30000 it is 100
        String ahead = POT + "pot step 41 holds 9;pipe 0 to 1 bore 10 by down 41 right 100 bellows ";
        is("30,000 more", Due.made(ahead + "0 life 9999 prop;run 1 at 739;").stay(0), 30000);
        is("29,999 more", Due.made(ahead + "1 life 9999 prop;run 1 at 739;").stay(0), 29999);
        // NEED 3030000 is 101 times 30000
        String beyond = POT + "pot step 75 holds 9;pipe 0 to 1 bore 10 by down 75 right 100 bellows ";
        is("30,001 more", Due.made(beyond + "0 life 9999 prop;run 1 at 404;").stay(0), -1);
        is("30,000 more again", Due.made(beyond + "1 life 9999 prop;run 1 at 404;").stay(0), 30000);
        is("beside a stay", Due.made(beyond + "0 life 9999 prop stay 1;run 1 at 404;").stay(0), 30000);
        is("far from enough", Due.made(Texts.pushed(0, 1).replace("bore 1", "bore 40") + "run 1 at 999;").stay(0), -1);
        // NEED 8960000 through 88713 is 100
        String most = "pot step 99 holds 9;".repeat(8) + "pipe 0 to 7 bore 40 by right 700 down 693 bellows 30000 life 9999 prop stay 30000;run 1 at 8;";
        is("beside the most bellows and stay", Due.made(most).stay(0), 28713);
        SAID.says("20", "-2: there is none such.");
        for (int k : Texts.outside(0, 0)) {
            is("PIPE " + k, Due.made(Texts.pushed(100, 1)).stay(k), -2);
        }
    }

    private static void cap() {
        SAID.says("21", "The greatest PRESS (0 .. 999) so that, all PRESSES above it being it, a PIPE never goes; NONE: with none.");
        is("100", Due.made(Texts.pushed(100, 9999) + "run 1 at 500;").cap(0), 100);
        is("99, for WEAR", Due.made(Texts.pushed(100, 51) + "run 1 at 500;").cap(0), 99);
        is("999, it never goes", Due.made(Texts.pushed(100, 9999) + "run 1 at 100;").cap(0), 999);
        is("999 without HOURS", Due.made(Texts.pushed(0, 1)).cap(0), 999);
        is("998", Due.made(Texts.pushed(989, 9999) + "run 1 at 999;").cap(0), 998);
        is("999 at 999", Due.made(Texts.pushed(990, 9999) + "run 1 at 999;").cap(0), 999);
        is("0", Due.made(Texts.pushed(0, 1) + "run 1 at 500;").cap(0), 0);
        is("0, for all are alike then", Due.made(Texts.weighty(100, 1) + "run 1 at 500;").cap(0), 0);
        is("with none", Due.made(Texts.weighty(101, 1) + "run 1 at 500;").cap(0), -1);
        is("with none, at PRESS 0", Due.made(Texts.weighty(101, 1) + "run 1 at 0;").cap(0), -1);
        // those below it stay: unlike ones, WEAR 1 at each 50
        is("those below stay: two are enough", Due.made(Texts.pushed(100, 2) + "swing 50 and 0 for 3;run 1 at 500;").cap(0), 49);
        is("capped they are alike", Due.made(Texts.pushed(100, 3) + "swing 50 and 0 for 3;run 1 at 500;").cap(0), 50);
        is("of more life", Due.made(Texts.pushed(100, 5) + "swing 50 and 0 for 3;run 1 at 500;").cap(0), 51);
        SAID.says("21", "-2: there is none such.");
        for (int k : Texts.outside(0, 0)) {
            is("PIPE " + k, Due.made(Texts.pushed(100, 1)).cap(k), -2);
        }
    }

    private static void prop() {
        SAID.says("22", "The HOUR in which a PIPE would go if it were propped (or not); NONE: never.");
        // weight 10100 alone bows it; the push is 100 times PRESS
        BellowsRow x = Due.made(Texts.pushed(100, 9999) + Texts.pipe(100, 9999).replace(" prop", "") + "run 1 at 100;run 1 at 101;");
        for (int k = 0; k < 2; k++) {
            is("propped " + k, x.prop(k, true), 1);
            is("not propped " + k, x.prop(k, false), 0);
        }
        is("it stays propped", x.goes(0), 1);
        is("it stays as it is", x.goes(1), 0);
        is("never", Due.made(Texts.weighty(101, 1) + "run 1 at 999;").prop(0, true), -1);
        is("never without HOURS", Due.made(Texts.weighty(101, 1)).prop(0, false), -1);
        SAID.says("22", "-2: there is none such.");
        for (int k : Texts.outside(0, 1)) {
            is("PIPE " + k, x.prop(k, true), -2);
            is("PIPE " + k + ", not", x.prop(k, false), -2);
        }
    }

    private static void widen() {
        SAID.says("23", "The HOUR in which a PIPE would go with another bore (1 .. 40), its bellows and stay bearing as much; NONE: never.");
        // NEED 100 times PRESS times the bore's square; HOLDS 16000 bears PRESS 10 of bore 40 with LOAD 100
        BellowsRow x = Due.made(Texts.pushed(10000, 9999).replace(" prop", " prop stay 6000").replace("bore 1", "bore 7") + "run 1 at 0;run 1 at 10;run 1 at 11;");
        is("bore 1", x.widen(0, 1), -1);
        is("its own", x.widen(0, 7), -1);
        is("bore 38", x.widen(0, 38), -1);
        is("bore 39", x.widen(0, 39), 2);
        is("bore 40", x.widen(0, 40), 2);
        is("it stays", x.pipe(0, 4), 707);
        is("weight grows too", Due.made(Texts.weighty(100, 9999) + "run 1 at 1;").widen(0, 2), 0);
        is("weight as it is", Due.made(Texts.weighty(100, 9999) + "run 1 at 1;").widen(0, 1), -1);
        SAID.says("23", "-2: there are none such.");
        for (int bore : Texts.outside(1, 40)) {
            is("bore " + bore, x.widen(0, bore), -2);
        }
        for (int k : Texts.outside(0, 0)) {
            is("PIPE " + k, x.widen(k, 7), -2);
        }
    }

    /** A SLOT with these numbers, of four bytes each. */
    private static void put(BellowsRow x, int slot, long... numbers) {
        Due.row(x, slot, 2, numbers);
    }

    private static void lever() {
        SAID.says("24", "LEVER of a PIPE by other MOVES, two numbers of a SLOT's row each (0 right, 1 up, 2 down; how far: 1 .. 900; one left over is not looked at), eight at most.");
        BellowsRow x = Due.made(POT + "pot step 9 holds 9;" + "pot step 9 holds 9;" + "pipe 0 to 1 bore 1 by right 100 down 9 bellows 0 life 1;"
            + "pipe 0 to 2 bore 1 by right 200 down 18 bellows 0 life 1;");
        put(x, 0, 0, 100, 2, 9);
        is("right, down", x.lever(0, 0), 100);
        put(x, 3, 2, 9, 0, 100);
        is("down, right, in SLOT 3", x.lever(3, 0), 9);
        put(x, 0, 2, 10, 0, 100, 1, 1);
        is("up at last", x.lever(0, 0), 100);
        put(x, 0, 0, 100, 2, 9, 99);
        is("one left over", x.lever(0, 0), 100);
        put(x, 0, 0, 100, 2, 9, 0);
        is("one left over, a way", x.lever(0, 0), 100);
        put(x, 0, 0, 99, 0, 1, 2, 9);
        is("1 far", x.lever(0, 0), 100);
        put(x, 0, 1, 891, 0, 100, 2, 900);
        is("900 far", x.lever(0, 0), 100);
        put(x, 0, 0, 40, 0, 10, 0, 10, 0, 10, 0, 10, 0, 10, 0, 10, 2, 9);
        is("eight", x.lever(0, 0), 100);
        put(x, 0, 0, 40, 0, 10, 0, 10, 0, 10, 0, 10, 0, 10, 0, 10, 2, 9, 7);
        is("eight, and one left over", x.lever(0, 0), 100);
        for (int time = 0; time < 3; time++) {
            put(x, 0, 2, 1, 0, 10, 2, 2, 0, 20, 1, 5, 0, 30, 2, 11, 0, 40);
            is("eight unlike ones, right at last", x.lever(0, 0), 9);
            put(x, 0, 0, 10, 1, 1, 0, 20, 2, 5, 0, 30, 1, 2, 0, 40, 2, 7);
            is("eight unlike ones, down at last", x.lever(0, 0), 100);
        }
        put(x, 0, 0, 200, 2, 18);
        is("of the other PIPE", x.lever(0, 1), 200);
        is("the PIPE's own stays", x.pipe(1, 5), 200);
        BellowsRow flat = Due.made(POT + POT + Texts.FLAT);
        put(flat, 0, 0, 100);
        is("one MOVE", flat.lever(0, 0), 0);
    }

    private static void leverRefused() {
        BellowsRow x = Due.made(POT + "pot step 9 holds 9;" + "pipe 0 to 1 bore 1 by right 100 down 9 bellows 0 life 1;");
        SAID.says("24", "-2: there are none such, a number is none such, none or more than eight;");
        put(x, 0, 0, 100, 2, 9);
        for (int slot : Texts.outside(0, 3)) {
            is("SLOT " + slot, x.lever(slot, 0), -2);
        }
        for (int k : Texts.outside(0, 0)) {
            is("PIPE " + k, x.lever(0, k), -2);
            is("PIPE " + k + ", a SLOT of nothing", x.lever(1, k), -2);
        }
        long[][] none = {{}, {0}, {3, 100, 2, 9}, {-1, 100, 2, 9}, {0, 100, 3, 9}, {0, 0, 2, 9}, {0, 901, 2, 9}, {0, 100, 2, 0}, {0, 100, 2, 901}, {0, -100, 2, 9},
            {0, 100, 2, -9}, {0, 20, 0, 10, 0, 10, 0, 10, 0, 10, 0, 10, 0, 10, 0, 10, 0, 10, 2, 9}, {0, 30, 0, 10, 0, 10, 0, 10, 0, 10, 0, 10, 0, 10, 0, 10, 2, 9},
            {0, 30, 0, 10, 0, 10, 0, 10, 0, 10, 0, 10, 0, 10, 0, 10, 2, 9, 7}};
        for (int i = 0; i < none.length; i++) {
            put(x, 0, none[i]);
            is("numbers " + i, x.lever(0, 0), -2);
        }
        x.row(0, 2, 60);
        is("sixty", x.lever(0, 0), -2);
        Due.row(x, 0, 3, 1L << 32, 100, 2, 9);
        is("a way that wraps round", x.lever(0, 0), -2);
        x.write(0, 0, 0);
        is("a way", x.lever(0, 0), 100);
        x.write(0, 1, (1L << 32) + 100);
        is("so far that it wraps round", x.lever(0, 0), -2);
        SAID.says("24", "-6: it has nothing;");
        is("nothing", x.lever(1, 0), -6);
        SAID.says("24", "-5: they do not come to its second POT.");
        long[][] astray = {{0, 99, 2, 9}, {0, 101, 2, 9}, {0, 100, 2, 8}, {0, 100, 2, 10}, {0, 100, 1, 9}, {0, 100}, {2, 9}, {0, 900}, {1, 900}, {2, 900}, {0, 1}};
        for (int i = 0; i < astray.length; i++) {
            put(x, 0, astray[i]);
            is("astray " + i, x.lever(0, 0), -5);
        }
    }

    private static void trial() {
        SAID.says("25", "How many PIPES that go a TRIAL at a PRESS would have shown (they BOW at it or less).");
        // they bow at 101, 103 and 1; the fourth at 202, but it does not go
        BellowsRow x = Due.made(Texts.pushed(100, 9999) + Texts.pipe(101, 1) + Texts.pipe(0, 1) + Texts.pipe(200, 9999) + "run 1 at 101;");
        int[][] due = {{0, 0}, {1, 1}, {100, 1}, {101, 2}, {102, 2}, {103, 3}, {200, 3}, {202, 3}, {999, 3}};
        for (int[] d : due) {
            is("at " + d[0], x.trial(d[0]), d[1]);
        }
        is("at 0", Due.made(Texts.weighty(101, 1) + "run 1 at 0;").trial(0), 1);
        is("at 998 of 999", Due.made(Texts.pushed(989, 9999) + "run 1 at 999;").trial(998), 0);
        is("at 999", Due.made(Texts.pushed(989, 9999) + "run 1 at 999;").trial(999), 1);
        is("one that goes and never bows", Due.made(Texts.weighty(100, 1) + "run 1 at 1;").trial(999), 0);
        is("without HOURS", Due.made(Texts.weighty(101, 1)).trial(999), 0);
        is("all twelve", Due.made(POT + POT + Texts.FLAT.repeat(12) + "run 1 at 1;").trial(0), 12);
        SAID.says("25", "-2: there is none such.");
        for (int press : Texts.outside(0, 999)) {
            is("PRESS " + press, x.trial(press), -2);
        }
    }

    private static void show() {
        SAID.says("26", "The least PRESS of a TRIAL that shows as many as any; 0: none would.");
        is("the greatest of those that show one more", Due.made(Texts.pushed(100, 9999) + Texts.pipe(101, 1) + Texts.pipe(0, 1) + Texts.pipe(200, 9999) + "run 1 at 101;").show(), 103);
        is("999", Due.made(Texts.pushed(989, 9999) + "run 1 at 999;").show(), 999);
        is("0, where one bows at 0", Due.made(Texts.weighty(101, 1) + "run 1 at 0;").show(), 0);
        is("0: none goes", Due.made(Texts.pushed(100, 9999) + "run 1 at 100;").show(), 0);
        is("0: none bows", Due.made(Texts.weighty(100, 1) + "run 1 at 1;").show(), 0);
        is("one bows, one does not", Due.made(Texts.pushed(100, 9999) + Texts.pipe(990, 1).replace("right 100 down 1", "down 1 right 100") + "run 1 at 101;").show(), 101);
        is("0: no PIPES", Due.made("run 1 at 999;").show(), 0);
    }
}
