/** Promises 27 to 41 by their sentences: clouds and ROOMS, PERSONS and CHANGES, RULES and counts. */
public final class CloudEdgesTest {
    private static final Said SAID = new Said("CloudEdgesTest");
    private static final int NOTHING = Texts.NOTHING;
    private static final String POT = Texts.POT;

    private static void is(String call, long got, long want) {
        SAID.is(call, got, want);
    }

    public static void main(String[] args) {
        reach();
        lights();
        taken();
        lives();
        when();
        moved();
        risk();
        safest();
        whole();
        staying();
        asked();
        who();
        rules();
        rulesOfSeveral();
        held();
        count();
        String[] all = new String[15];
        for (int i = 0; i < all.length; i++) {
            all[i] = String.valueOf(27 + i);
        }
        SAID.end(all);
    }

    private static void reach() {
        SAID.says("27", "How far a CLOUD reaches (V), if a PIPE goes in an HOUR, after minutes (1 .. 60). -2: there are none such.");
        BellowsRow x = Due.made(Texts.cloud(100) + "run 1 at 0;");
        is("1 minute", x.reach(0, 0, 1), 10);
        is("60 minutes", x.reach(0, 0, 60), 77);
        is("the last HOUR", x.reach(0, 1, 60), 0);
        for (int minutes : Texts.outside(1, 60)) {
            is(minutes + " minutes", x.reach(0, 0, minutes), -2);
        }
        for (int hour : Texts.outside(0, 1)) {
            is("HOUR " + hour, x.reach(0, hour, 1), -2);
        }
        for (int k : Texts.outside(0, 0)) {
            is("PIPE " + k, x.reach(k, 0, 1), -2);
        }
    }

    private static void lights() {
        SAID.says("28", "The minute (1 .. 60) in which it LIGHTS; NONE: it does not.");
        is("1", Due.made(Texts.cloud(100) + Texts.flame(60, 0, 1)).lights(0, 0), 1);
        is("2", Due.made(Texts.cloud(100) + Texts.flame(61, 0, 1)).lights(0, 0), 2);
        is("60", Due.made(Texts.cloud(15) + Texts.flame(80, 0, 1)).lights(0, 0), 60);
        is("not", Due.made(Texts.cloud(15) + Texts.flame(81, 0, 1)).lights(0, 0), -1);
        is("no ROOMS", Due.made(Texts.cloud(15)).lights(0, 0), -1);
        is("drifts past it", Due.made(Texts.cloud(0) + "wind right 15;" + Texts.flame(949, 0, 1)).lights(0, 0), -1);
        is("drifts on to it", Due.made(Texts.cloud(0) + "wind right 15;" + Texts.flame(950, 0, 1)).lights(0, 0), 60);
        SAID.says("28", "-2 likewise.");
        BellowsRow x = Due.made(Texts.cloud(100) + Texts.flame(60, 0, 1));
        for (int hour : Texts.outside(0, 0)) {
            is("HOUR " + hour, x.lights(0, hour), -2);
            is("PIPE " + hour, x.lights(hour, 0), -2);
        }
    }

    private static void taken() {
        SAID.says("29", "ROOMS that it takes, as bits; 0: it does not light.");
        is("the first", Due.made(Texts.cloud(100) + Texts.flame(60, 0, 1)).taken(0, 0), 1);
        is("the twelfth", Due.made(Texts.cloud(100) + Texts.room(900, 0, 1).repeat(11) + Texts.flame(60, 0, 1)).taken(0, 0), 2048);
        is("all twelve", Due.made(Texts.cloud(100) + Texts.flame(60, 0, 1).repeat(12)).taken(0, 0), 4095);
        is("20 away, not 21", Due.made(Texts.cloud(100) + Texts.flame(60, 0, 1) + Texts.room(70, 0, 1) + Texts.room(71, 0, 1)).taken(0, 0), 3);
        // minute 1 reaches 31: 0, 0 is in it, but no ROOM is there
        is("none but those that are there", Due.made(Texts.cloud(999) + Texts.flame(50, 0, 1)).taken(0, 0), 1);
        is("no flame", Due.made(Texts.cloud(100) + Texts.room(50, 0, 1)).taken(0, 0), 0);
        is("too far", Due.made(Texts.cloud(15) + Texts.flame(81, 0, 1)).taken(0, 0), 0);
        SAID.says("29", "-2 likewise.");
        BellowsRow x = Due.made(Texts.cloud(100) + Texts.flame(60, 0, 1));
        for (int hour : Texts.outside(0, 0)) {
            is("HOUR " + hour, x.taken(0, hour), -2);
            is("PIPE " + hour, x.taken(hour, 0), -2);
        }
    }

    private static void lives() {
        SAID.says("30", "PEOPLE that it takes, if the PIPE goes in an HOUR.");
        String hours = POT + POT + Texts.FLAT + "run 1000 at 100;";
        BellowsRow x = Due.made(hours + "room at 60 0 day 1 night 10 flame;room at 70 0 day 100 night 200;room at 71 0 day 999 night 999;");
        is("by night", x.lives(0, 7), 210);
        is("by day", x.lives(0, 8), 101);
        is("by day at last", x.lives(0, 16), 101);
        is("by night again", x.lives(0, 17), 210);
        is("DAY 4", x.lives(0, 4 * 24 + 12), 101);
        is("DAY 5", x.lives(0, 5 * 24 + 12), 210);
        is("DAY 7", x.lives(0, 7 * 24 + 12), 101);
        is("the most", Due.made(Texts.cloud(100) + Texts.flame(60, 0, 999).repeat(12)).lives(0, 0), 11988);
        is("of an empty ROOM", Due.made(Texts.cloud(100) + Texts.flame(60, 0, 0)).lives(0, 0), 0);
        is("unlit", Due.made(Texts.cloud(100) + Texts.room(60, 0, 7)).lives(0, 0), 0);
        SAID.says("30", "-2 likewise.");
        for (int hour : Texts.outside(0, 999)) {
            is("HOUR " + hour, x.lives(0, hour), -2);
        }
        for (int k : Texts.outside(0, 0)) {
            is("PIPE " + k, x.lives(k, 0), -2);
        }
    }

    /** HOURS 0 .. 199 take one each, 200 takes none, 201 takes one. */
    private static BellowsRow nearlyAll() {
        return Due.made(POT + POT + Texts.FLAT + "run 200 at 100;run 1 at 0;run 1 at 100;" + Texts.flame(60, 0, 1));
    }

    /** PRESS 0, 999, 998 and 0 again, and two PIPES: the first takes 1 at PRESS 0 and 3 at the others, the second 0 and 3. */
    private static BellowsRow ends() {
        return Due.made(POT + POT + POT + Texts.FLAT + Texts.FLAT.replace("0 to 1", "1 to 2") + "run 1 at 0;run 1 at 999;run 1 at 998;run 1 at 0;"
            + Texts.flame(50, 0, 1) + Texts.room(112, 0, 2));
    }

    private static void when() {
        SAID.says("31", "The HOUR of those from one on, n of them (1 .. 200; as far as there are), in which it takes the fewest, the first of several.");
        BellowsRow x = nearlyAll();
        is("200 from 0 on", x.when(0, 0, 200), 0);
        is("200 from 1 on", x.when(0, 1, 200), 200);
        is("199 from 1 on", x.when(0, 1, 199), 1);
        is("200 from 200 on, of two", x.when(0, 200, 200), 200);
        is("200 from 201 on, of one", x.when(0, 201, 200), 201);
        is("1 from 0 on", x.when(0, 0, 1), 0);
        is("1 from 199 on", x.when(0, 199, 1), 199);
        is("2 from 199 on", x.when(0, 199, 2), 200);
        is("1 from 201 on", x.when(0, 201, 1), 201);
        BellowsRow day = Due.made(POT + POT + Texts.FLAT + "run 30 at 100;room at 60 0 day 1 night 2 flame;");
        is("by day", day.when(0, 0, 30), 8);
        is("just not by day", day.when(0, 0, 8), 0);
        is("by day at last", day.when(0, 0, 9), 8);
        BellowsRow ends = ends();
        is("PRESS 0 takes the fewest", ends.when(0, 0, 3), 0);
        is("of PRESS 999 and 998 the first", ends.when(0, 1, 2), 1);
        is("another PIPE", ends.when(1, 0, 4), 0);
        is("the PIPE again", ends.when(0, 1, 3), 3);
        SAID.says("31", "-2: there are none such.");
        for (int n : Texts.outside(1, 200)) {
            is("n " + n, x.when(0, 0, n), -2);
        }
        for (int hour : Texts.outside(0, 201)) {
            is("HOUR " + hour, x.when(0, hour, 1), -2);
        }
        for (int k : Texts.outside(0, 0)) {
            is("PIPE " + k, x.when(k, 0, 1), -2);
        }
    }

    private static void moved() {
        SAID.says("32", "How many fewer it takes, if a ROOM stood elsewhere (-500 .. 999 each).");
        BellowsRow x = Due.made(Texts.cloud(100) + Texts.flame(60, 0, 3) + Texts.room(70, 0, 5) + Texts.room(71, 0, 7));
        is("out of it", x.moved(0, 0, 1, 71, 0), 5);
        is("into it", x.moved(0, 0, 2, 70, 0), -7);
        is("where it was", x.moved(0, 0, 1, 70, 0), 0);
        is("no flame near", x.moved(0, 0, 0, 999, 999), 8);
        is("one minute later it takes more", x.moved(0, 0, 0, 61, 0), -7);
        is("-500, -500", x.moved(0, 0, 1, -500, -500), 5);
        is("-500, 999", x.moved(0, 0, 1, -500, 999), 5);
        is("999, -500", x.moved(0, 0, 1, 999, -500), 5);
        is("0, 0", x.moved(0, 0, 1, 50, 0), 0);
        is("it stands as it stood", x.taken(0, 0), 3);
        BellowsRow far = Due.made(Texts.cloud(999).replace("bore 1 ", "bore 40 ") + "wind left 10;" + Texts.flame(999, 500, 1) + Texts.room(999, 500, 1));
        // minute 7 reaches 528, and is 480 away from there: the other ROOM is too far
        is("-500 is near enough", far.moved(0, 0, 0, -500, 0), -1);
        SAID.says("32", "NOTHING: there are none such.");
        for (int at : Texts.outside(-500, 999)) {
            is("x " + at, x.moved(0, 0, 1, at, 0), NOTHING);
            is("y " + at, x.moved(0, 0, 1, 0, at), NOTHING);
        }
        for (int room : Texts.outside(0, 2)) {
            is("ROOM " + room, x.moved(0, 0, room, 0, 0), NOTHING);
        }
        for (int hour : Texts.outside(0, 0)) {
            is("HOUR " + hour, x.moved(0, hour, 1, 0, 0), NOTHING);
            is("PIPE " + hour, x.moved(hour, 0, 1, 0, 0), NOTHING);
        }
    }

    private static void risk() {
        SAID.says("33", "PEOPLE that it takes in all, if a PIPE goes in each of n HOURS (1 .. 200; as far as there are) from one on.");
        BellowsRow x = nearlyAll();
        is("200 from 0 on", x.risk(0, 0, 200), 200);
        is("200 from 1 on", x.risk(0, 1, 200), 199);
        is("200 from 2 on", x.risk(0, 2, 200), 199);
        is("200 from 3 on, of 199", x.risk(0, 3, 200), 198);
        is("200 from 201 on, of one", x.risk(0, 201, 200), 1);
        is("1 from 0 on", x.risk(0, 0, 1), 1);
        is("1 from 200 on", x.risk(0, 200, 1), 0);
        is("2 from 200 on", x.risk(0, 200, 2), 1);
        is("the most", Due.made(POT + POT + Texts.FLAT + "run 200 at 100;" + Texts.flame(60, 0, 999).repeat(12)).risk(0, 0, 200), 200 * 11988);
        BellowsRow ends = ends();
        int[] first = {1, 3, 3, 1};
        int[] second = {0, 3, 3, 0};
        for (int hour = 0; hour < 4; hour++) {
            is("PIPE 0, HOUR " + hour, ends.risk(0, hour, 1), first[hour]);
            is("PIPE 1, HOUR " + hour, ends.risk(1, hour, 1), second[hour]);
            is("PIPE 0 again, HOUR " + hour, ends.risk(0, hour, 1), first[hour]);
        }
        is("PIPE 0, all", ends.risk(0, 0, 4), 8);
        is("PIPE 1, all", ends.risk(1, 0, 200), 6);
        SAID.says("33", "-2: there are none such.");
        for (int n : Texts.outside(1, 200)) {
            is("n " + n, x.risk(0, 0, n), -2);
        }
        for (int hour : Texts.outside(0, 201)) {
            is("HOUR " + hour, x.risk(0, hour, 1), -2);
        }
        for (int k : Texts.outside(0, 0)) {
            is("PIPE " + k, x.risk(k, 0, 1), -2);
        }
    }

    private static void safest() {
        SAID.says("34", "Where a ROOM would stand so that it takes the fewest, X of 0, 100 .. 900, Y of 0, 100 .. 500: 1,000 X and Y (1000 * X + Y), the least of several.");
        is("0, 0 of all", Due.made(Texts.cloud(0) + Texts.flame(50, 0, 1) + Texts.room(50, 0, 1)).safest(0, 0, 1), 0);
        is("0, 0 without a flame", Due.made(Texts.cloud(100) + Texts.room(50, 0, 1)).safest(0, 0, 0), 0);
        // lit 225 away in minute 51: takes up to 450 away, and 0, 400 is that far
        is("0, 500", Due.made(Texts.cloud(999) + Texts.flame(275, 0, 1) + Texts.room(50, 0, 1)).safest(0, 0, 1), 500);
        // minute 45 reaches 212 and takes up to 424: 0, 400 is 450 away
        is("0, 400", Due.made(Texts.cloud(999) + Texts.flame(262, 0, 1) + Texts.room(50, 0, 1)).safest(0, 0, 1), 400);
        // lit 600 and more away: of all places 900, 500 alone is more than 1264 away
        is("900, 500", Due.made(Texts.cloud(999).replace("bore 1 ", "bore 40 ") + Texts.flame(650, 0, 5) + Texts.room(50, 0, 10)).safest(0, 0, 1), 900500);
        // nowhere is safe: the least of all
        is("nowhere", Due.made(Texts.cloud(999).replace("bore 1 ", "bore 40 ") + Texts.flame(999, 0, 5) + Texts.room(50, 0, 10)).safest(0, 0, 1), 0);
        // 50, 0 lights it in minute 1 wherever the second stands: taken up to 20 away
        BellowsRow x = Due.made(Texts.cloud(100) + Texts.flame(50, 0, 3) + Texts.room(51, 0, 5));
        is("beside it", x.safest(0, 0, 1), 0);
        is("it stands as it stood", x.lives(0, 0), 8);
        // the flame itself: far enough not to light, 0, 100 is 150 away, minute 60 reaches 77
        is("a flame", x.safest(0, 0, 0), 100);
        SAID.says("34", "-2: there are none such.");
        for (int room : Texts.outside(0, 1)) {
            is("ROOM " + room, x.safest(0, 0, room), -2);
        }
        for (int hour : Texts.outside(0, 0)) {
            is("HOUR " + hour, x.safest(0, hour, 0), -2);
            is("PIPE " + hour, x.safest(hour, 0, 0), -2);
        }
    }

    private static void whole() {
        SAID.says("35", "CHANGES that are ASKED (VI) all that they need, as bits.");
        String ahead = "rule pot asks draw gas;person knows draw gas push;";
        is("none there", Due.made(ahead).whole(), 0);
        is("one", Due.made(ahead + "change pot day 0 needs draw;").whole(), 1);
        is("all it needs", Due.made(ahead + "change pot day 0 needs draw gas;").whole(), 1);
        is("not all it needs", Due.made(ahead + "change pot day 0 needs draw gas push;").whole(), 0);
        is("the last of twenty", Due.made(ahead + "change pot day 0 needs push;".repeat(19) + "change pot day 0 needs gas;").whole(), 1 << 19);
        is("all of twenty", Due.made(ahead + "change pot day 0 needs gas;".repeat(20)).whole(), (1 << 20) - 1);
        is("none of twenty", Due.made(ahead + "change pipe day 0 needs gas;".repeat(20)).whole(), 0);
        is("the last PERSON knows it", Due.made("rule pot asks gas;" + "person knows draw;".repeat(11) + "person knows gas;change pot day 0 needs gas;").whole(), 1);
        String[] kinds = {"pot", "pipe", "prop", "press"};
        for (int kind = 0; kind < 4; kind++) {
            StringBuilder changes = new StringBuilder("person knows draw push metal gas;rule " + kinds[kind] + " asks push gas;");
            for (String of : kinds) {
                changes.append("change ").append(of).append(" day 0 needs gas push;");
            }
            BellowsRow x = Due.made(changes.toString());
            is("of KIND " + kind, x.whole(), 1 << kind);
            for (int change = 0; change < 4; change++) {
                is("asked of KIND " + change, x.asked(change, 0), change == kind ? 10 : 0);
                is("not ruled of KIND " + change, x.asked(change, 1), change == kind ? 0 : 10);
            }
        }
    }

    private static void staying() {
        SAID.says("36", "How many more of them would be, if a PERSON were never away.");
        String changes = "change pot day 4 needs gas;change pot day 5 needs gas;change pot day 6 needs gas;change pot day 7 needs gas;change pot day 5 needs draw;";
        BellowsRow x = Due.made("rule pot asks gas;person knows gas away 5 to 6;person knows gas away 6 to 7;person knows draw away 0 to 999;person knows gas away 6 to 6;" + changes);
        is("as they are", x.whole(), 1 + 2 + 8);
        is("PERSON 0", x.staying(0), 1);
        is("PERSON 1", x.staying(1), 1);
        is("one who is not asked", x.staying(2), 0);
        is("the last PERSON", x.staying(3), 1);
        is("they are as they were", x.whole(), 1 + 2 + 8);
        is("who is there", x.who(3, 6), -1);
        is("one never away", Due.made("rule pot asks gas;person knows gas;" + changes).staying(0), 0);
        is("all", Due.made("rule pot asks gas;person knows gas away 0 to 999;" + "change pot day 5 needs gas;".repeat(20)).staying(0), 20);
        SAID.says("36", "-2: there is none such.");
        for (int person : Texts.outside(0, 3)) {
            is("PERSON " + person, x.staying(person), -2);
        }
    }

    private static void asked() {
        SAID.says("37", "SUBJECTS that a CHANGE needs, what 0: and are ASKED (VI), 1: and no RULE asks, 2: and a RULE asks but nobody there knows,"
            + " 3: and nobody there knows (asked or not), as bits.");
        // RULES ask draw and metal; draw and push are known
        BellowsRow x = Due.made("rule pot asks draw metal;person knows draw push;person knows gas metal away 3 to 3;"
            + "change pot day 3 needs draw push metal gas;change pot day 2 needs draw push metal gas;change pot day 3 needs gas;");
        int[][] due = {{1, 2 + 8, 4, 4 + 8}, {1 + 4, 2 + 8, 0, 0}, {0, 8, 0, 8}};
        for (int change = 0; change < 3; change++) {
            for (int what = 0; what < 4; what++) {
                is("CHANGE " + change + " what " + what, x.asked(change, what), due[change][what]);
            }
        }
        String[] subjects = {"draw", "push", "metal", "gas"};
        for (int s = 0; s < 4; s++) {
            BellowsRow y = Due.made("rule pot asks " + subjects[s] + ";change pot day 0 needs " + subjects[s] + ";");
            int[] unknown = {0, 0, 1 << s, 1 << s};
            for (int what = 0; what < 4; what++) {
                is("nobody knows " + subjects[s] + ", what " + what, y.asked(0, what), unknown[what]);
            }
        }
        SAID.says("37", "-2: there are none such.");
        for (int change : Texts.outside(0, 2)) {
            is("CHANGE " + change, x.asked(change, 0), -2);
        }
        for (int what : Texts.outside(0, 3)) {
            is("what " + what, x.asked(0, what), -2);
        }
    }

    private static void who() {
        SAID.says("38", "The first PERSON there who knows a SUBJECT on a DAY (0 .. 999); NONE: nobody.");
        BellowsRow x = Due.made("person knows draw away 1 to 998;person knows draw gas;person knows push away 0 to 999;" + "person knows draw;".repeat(8) + "person knows metal;");
        is("DAY 0", x.who(0, 0), 0);
        is("DAY 1", x.who(0, 1), 1);
        is("DAY 998", x.who(0, 998), 1);
        is("DAY 999", x.who(0, 999), 0);
        is("nobody is there", x.who(1, 999), -1);
        is("the last", x.who(2, 0), 11);
        is("SUBJECT 3", x.who(3, 999), 1);
        is("nobody at all", new BellowsRow().who(0, 0), -1);
        SAID.says("38", "-2: there are none such.");
        for (int subject : Texts.outside(0, 3)) {
            is("SUBJECT " + subject, x.who(subject, 0), -2);
            is("SUBJECT " + subject + " with nobody", new BellowsRow().who(subject, 0), -2);
        }
        for (int day : Texts.outside(0, 999)) {
            is("DAY " + day, x.who(0, day), -2);
        }
    }

    private static void rules() {
        SAID.says("39", "RULES (VI): with at most n ASKS (0 .. 16) those by which the most CHANGES are ASKED all that they need (PEOPLE there aside);");
        BellowsRow x = Due.made("change pot day 0 needs draw push metal gas;change pipe day 0 needs draw push metal gas;"
            + "change prop day 0 needs draw push metal gas;change press day 0 needs draw push metal gas;");
        int[] due = {0, 0, 0, 0, 15, 15, 15, 15, 255, 255, 255, 255, 4095, 4095, 4095, 4095, 65535};
        for (int n = 0; n < due.length; n++) {
            is("n " + n, x.rules(n), due[n]);
        }
        is("no CHANGES", new BellowsRow().rules(16), 0);
        is("no RULES stand by it", x.count(6), 0);
        BellowsRow there = Due.made("rule press asks gas;person knows draw;change pot day 5 needs gas;change press day 5 needs push;");
        is("PEOPLE there aside", there.rules(1), 8);
        is("RULES that stand aside", there.rules(2), 8 + 8192);
        BellowsRow more = Due.made("change pot day 0 needs draw gas;change pipe day 0 needs gas;change pipe day 0 needs gas push;");
        is("one ASK", more.rules(1), 128);
        is("two ASKS: two held, one of them asked in vain", more.rules(2), 160);
        is("three ASKS: as many held, none in vain", more.rules(3), 137);
        is("four ASKS", more.rules(4), 169);
        SAID.says("39", "-2: there is none such n.");
        for (int n : Texts.outside(0, 16)) {
            is("n " + n, x.rules(n), -2);
            is("n " + n + ", no CHANGES", new BellowsRow().rules(n), -2);
        }
    }

    private static void rulesOfSeveral() {
        SAID.says("39", "of several those with the fewest that ask in vain, then the fewest ASKS, then the least bits: as bits (4 times KIND, and SUBJECT).");
        // one of two can be held: pot asks another in vain, press does not
        BellowsRow x = Due.made("change pot day 0 needs draw;change pot day 0 needs push metal;change press day 0 needs gas;");
        is("the fewest in vain, though greater bits", x.rules(1), 32768);
        is("and the next", x.rules(2), 32769);
        // two ASKS that hold one in vain of none, or one that holds one in vain of one
        BellowsRow y = Due.made("change pot day 0 needs draw;change pot day 0 needs gas push;change pipe day 0 needs gas push;");
        is("the fewest in vain, though more ASKS", y.rules(2), 160);
        is("one ASK alone", y.rules(1), 1);
        // more held goes ahead of fewer in vain
        BellowsRow z = Due.made("change pot day 0 needs draw;change pot day 0 needs draw;change pot day 0 needs push metal gas;change pipe day 0 needs gas;");
        is("the most held", z.rules(1), 1);
        // ASKS that no CHANGE needs are in vain for none of its KIND: the fewest ASKS leave them out
        BellowsRow w = Due.made("change prop day 0 needs gas;");
        is("the fewest ASKS", w.rules(16), 2048);
        is("the fewest ASKS, though greater bits", Due.made("change pot day 0 needs draw push;change press day 0 needs gas;").rules(2), 32768);
        // the least bits of two alike
        BellowsRow v = Due.made("change press day 0 needs draw;change pipe day 0 needs gas;change prop day 0 needs push;");
        is("the least bits of one", v.rules(1), 128);
        is("the least bits of two", v.rules(2), 128 + 512);
        is("the least SUBJECT", Due.made("change pot day 0 needs gas;change pot day 0 needs metal;").rules(1), 4);
        is("KIND 0, SUBJECT 0", Due.made("change pot day 0 needs draw;").rules(1), 1);
        is("KIND 3, SUBJECT 3", Due.made("change press day 0 needs gas;").rules(1), 32768);
        is("twenty", Due.made("change pot day 0 needs draw;".repeat(19) + "change pot day 0 needs push;").rules(1), 1);
        is("twenty in vain", Due.made("change pot day 0 needs draw;".repeat(10) + "change pot day 0 needs push;".repeat(10)).rules(16), 3);
    }

    private static void held() {
        SAID.says("40", "By a set of ASKS (0 .. 65,535) how many CHANGES (vain false) are ASKED all that they need, or (true) are asked what they need not.");
        BellowsRow x = Due.made("change pot day 0 needs draw gas;change pot day 0 needs gas;change press day 0 needs gas;");
        int[][] due = {{0, 0, 0}, {1, 0, 1}, {8, 1, 0}, {9, 2, 1}, {15, 2, 2}, {32768, 1, 0}, {16384, 0, 1}, {32767, 2, 3}, {65535, 3, 3}, {65534, 2, 3}, {4080, 0, 0}};
        for (int[] d : due) {
            is("set " + d[0], x.held(d[0], false), d[1]);
            is("set " + d[0] + " in vain", x.held(d[0], true), d[2]);
        }
        BellowsRow all = Due.made("change pipe day 0 needs gas;".repeat(20));
        is("all twenty", all.held(128, false), 20);
        is("all twenty in vain", all.held(192, true), 20);
        is("no CHANGES", new BellowsRow().held(65535, true), 0);
        SAID.says("40", "-2: there is none such.");
        for (int set : Texts.outside(0, 65535)) {
            is("set " + set, x.held(set, false), -2);
            is("set " + set + " in vain", x.held(set, true), -2);
        }
    }

    private static void count() {
        SAID.says("41", "0 POTS, 1 PIPES, 2 HOURS, 3 ROOMS, 4 PERSONS, 5 CHANGES, 6 ASKS of the RULES (bits), 7 LINES, 8 bytes of the TAPE, 9 SLOTS that have a row.");
        BellowsRow x = Due.made(POT + POT + Texts.FLAT.repeat(3) + "run 4 at 0;run 1 at 1;" + Texts.room(0, 0, 0).repeat(6) + "person knows gas;".repeat(7)
            + "change pot day 0 needs gas;".repeat(8) + "rule pipe asks draw;wind up 1;");
        x.feed(0, 0, 0, 0, 0);
        x.end(11);
        x.row(0, 0, 0);
        x.row(3, 3, 60);
        x.row(3, 3, -1);
        x.row(2, 3, 61);
        int[] due = {2, 3, 5, 6, 7, 8, 16, 30, 11, 2};
        for (int what = 0; what < due.length; what++) {
            is("what " + what, x.count(what), due[what]);
        }
        BellowsRow none = new BellowsRow();
        for (int what = 0; what < due.length; what++) {
            is("none of what " + what, none.count(what), 0);
        }
        for (int slot = 0; slot < 4; slot++) {
            none.row(slot, 0, 0);
            none.row(slot, 0, 1);
            is("SLOTS up to " + slot, none.count(9), slot + 1);
        }
        SAID.says("41", "NONE for others.");
        for (int what : Texts.outside(0, 9)) {
            is("what " + what, x.count(what), -1);
        }
    }
}
