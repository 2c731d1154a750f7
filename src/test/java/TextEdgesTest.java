/** Term I by its sentences: what a text may have, its bounds, its TOKENS and its FAULTS. */
public final class TextEdgesTest {
    private static final Said SAID = new Said("TextEdgesTest");
    private static final int NOTHING = -2000000000;

    private static final String POT = "pot step 0 holds 9;";
    private static final String POTS = POT + "pot step 5 holds 9;";
    private static final String PIPE = "pipe 0 to 1 bore 1 by right 100 down 5 bellows 0 life 1;";
    private static final String RULE = "rule pot asks gas;";
    private static final String ROOM = "room at 0 0 day 0 night 0;";
    private static final String PERSON = "person knows gas;";
    private static final String CHANGE = "change pot day 0 needs gas;";

    private static final String[] LINES = {
        "pot step 0 holds 9 ;",
        "pipe 0 to 1 bore 1 by right 100 down 5 bellows 1 life 1 prop stay 1 ;",
        "run 1 at 0 ;",
        "swing 1 and 2 for 3 ;",
        "wind left 5 ;",
        "room at 1 2 day 3 night 4 flame ;",
        "person knows draw gas away 1 to 2 ;",
        "rule prop asks push metal ;",
        "change press day 3 needs draw gas ;",
    };

    public static void main(String[] args) {
        lines();
        forms();
        optional();
        repeated();
        numberedAsTheyStand();
        ways();
        subjectsAndKinds();
        potBounds();
        pipeBounds();
        moveBounds();
        hourBounds();
        windAndRoomBounds();
        dayBounds();
        onceOnly();
        blanks();
        words();
        numbers();
        firstByPlace();
        faultOne();
        faultTwo();
        faultThree();
        slots();
        SAID.end("I");
    }

    private static void lines() {
        SAID.says("I", "WORKS: {LINE ;}, 60 at most.");
        SAID.good(0, "");
        SAID.good(1, RULE);
        SAID.good(59, RULE.repeat(59));
        SAID.good(60, RULE.repeat(60));
        SAID.good(60, RULE.repeat(60) + " \n ");
        SAID.bad(3, RULE.repeat(60) + "^" + RULE);
        SAID.bad(1, "^;");
        SAID.bad(1, RULE + "^;");
        SAID.bad(1, "rule pot asks gas ^" + RULE);
        SAID.bad(1, "rule pot asks gas^");
        for (String line : LINES) {
            SAID.good(3, POTS + line);
        }
    }

    /** Every TOKEN of every LINE, with another in its place, and none behind the one ahead. */
    private static void forms() {
        SAID.says("I", "LINE: pot step N holds N | pipe P to P bore N by MOVE {MOVE} bellows N life N [prop] [stay N] | run N at N"
            + " | swing N and N for N | wind WAY N | room at X Y day N night N [flame]"
            + " | person knows SUBJECT {SUBJECT} [away D to D] | rule KIND asks SUBJECT {SUBJECT} | change KIND day D needs SUBJECT {SUBJECT}.");
        for (String line : LINES) {
            String[] tokens = line.split(" ");
            StringBuilder ahead = new StringBuilder(POTS);
            for (int i = 0; i < tokens.length; i++) {
                StringBuilder behind = new StringBuilder();
                for (int j = i + 1; j < tokens.length; j++) {
                    behind.append(' ').append(tokens[j]);
                }
                boolean isNumber = Character.isDigit(tokens[i].charAt(0));
                if (Character.isLetter(tokens[i].charAt(0))) {
                    SAID.bad(1, ahead + "^z" + tokens[i].substring(1) + behind);
                    SAID.bad(1, ahead + "^" + tokens[i].substring(0, tokens[i].length() - 1) + "z" + behind);
                    SAID.bad(1, ahead + "^" + tokens[i] + "z" + behind);
                    SAID.bad(1, ahead + "^z" + tokens[i] + behind);
                }
                SAID.bad(1, ahead + "^zz" + behind);
                SAID.bad(1, ahead + "^#" + behind);
                SAID.bad(1, ahead + (isNumber ? "^;" : "^7") + behind);
                if (i > 0) {
                    SAID.bad(1, ahead + "^");
                }
                if (!mayBeLeftOut(line, i, tokens[i])) {
                    SAID.bad(1, ahead + "^" + behind.toString().trim());
                }
                ahead.append(tokens[i]).append(' ');
            }
        }
        SAID.bad(1, "pot ^holds 0 step 0;");
        SAID.bad(1, "run 1 ^for 1;");
        SAID.bad(1, "swing 1 ^at 1;");
        SAID.bad(1, "room at 1 2 ^night 1 day 1;");
        SAID.bad(1, "rule pot ^needs gas;");
        SAID.bad(1, "change pot ^needs gas day 1;");
        SAID.bad(1, POTS + "pipe 0 to 1 ^by right 100 down 5 bore 1 bellows 0 life 1;");
        SAID.bad(1, POTS + "pipe 0 to 1 bore 1 by right 100 down 5 ^life 1 bellows 0;");
    }

    /** Whether a LINE without this TOKEN has no FAULT just behind it: it need not stand, or the next one takes its place. */
    private static boolean mayBeLeftOut(String line, int i, String token) {
        boolean isSubject = token.matches("draw|push|metal|gas");
        boolean isX = line.startsWith("room") && i == 2;
        return isSubject || isX || token.equals("flame") || line.startsWith("pipe") && token.equals("prop");
    }

    private static void optional() {
        SAID.says("I", "bellows N life N [prop] [stay N]");
        String ahead = POTS + "pipe 0 to 1 bore 1 by right 100 down 5 bellows 7 life 1";
        SAID.is("neither: holds", SAID.good(3, ahead + ";").pipe(0, 7), 7);
        SAID.is("neither: need", SAID.good(3, ahead + ";").need(0, 0), 10500);
        SAID.is("prop: need", SAID.good(3, ahead + " prop;").need(0, 0), 0);
        SAID.is("prop: holds", SAID.good(3, ahead + " prop;").pipe(0, 7), 7);
        SAID.is("stay: holds", SAID.good(3, ahead + " stay 2;").pipe(0, 7), 9);
        SAID.is("stay: need", SAID.good(3, ahead + " stay 2;").need(0, 0), 10500);
        SAID.is("both: holds", SAID.good(3, ahead + " prop stay 2;").pipe(0, 7), 9);
        SAID.is("both: need", SAID.good(3, ahead + " prop stay 2;").need(0, 0), 0);
        SAID.bad(1, ahead + " stay 2 ^prop;");
        SAID.bad(1, ahead + " prop ^prop;");
        SAID.bad(1, ahead + " stay 2 ^stay 2;");
        SAID.bad(1, ahead + " prop ^2;");
        SAID.says("I", "room at X Y day N night N [flame]");
        String cloud = POTS + PIPE + "run 1 at 1;room at 50 0 day 1 night 1";
        SAID.is("no flame", SAID.good(5, cloud + ";").lights(0, 0), -1);
        SAID.is("flame", SAID.good(5, cloud + " flame;").lights(0, 0), 1);
        SAID.bad(1, cloud + " flame ^flame;");
        SAID.says("I", "person knows SUBJECT {SUBJECT} [away D to D]");
        SAID.is("not away", SAID.good(1, "person knows gas;").who(3, 0), 0);
        SAID.is("away", SAID.good(1, "person knows gas away 0 to 0;").who(3, 0), -1);
        SAID.bad(1, "person knows gas away 0 to 0 ^away 0 to 0;");
        SAID.bad(1, "person knows gas away 0 ^;");
    }

    /** What may stand several times stands once at least. */
    private static void repeated() {
        SAID.says("I", "by MOVE {MOVE} bellows");
        String ahead = POT + POT + "pipe 0 to 1 bore 1 by ";
        SAID.is("one MOVE", SAID.good(3, ahead + "right 100 bellows 0 life 1;").pipe(0, 3), 100);
        SAID.bad(1, ahead + "^bellows 0 life 1;");
        SAID.bad(1, ahead + "^;");
        SAID.bad(1, ahead + "right 100 ^50 bellows 0 life 1;");
        SAID.says("I", "MOVE: right N | up N | down N.");
        SAID.bad(1, ahead + "^left 100 bellows 0 life 1;");
        SAID.bad(1, ahead + "right ^right 100 bellows 0 life 1;");
        SAID.bad(1, ahead + "^100 right bellows 0 life 1;");
        SAID.says("I", "rule KIND asks SUBJECT {SUBJECT}");
        SAID.is("one", SAID.good(1, "rule pot asks push;").count(6), 2);
        SAID.is("four", SAID.good(1, "rule pot asks push gas metal draw;").count(6), 15);
        SAID.bad(1, "rule pot asks ^;");
        SAID.says("I", "change KIND day D needs SUBJECT {SUBJECT}");
        SAID.is("one", SAID.good(1, "change pot day 0 needs push;").asked(0, 1), 2);
        SAID.is("four", SAID.good(1, "change pot day 0 needs push gas metal draw;").asked(0, 1), 15);
        SAID.bad(1, "change pot day 0 needs ^;");
        SAID.says("I", "person knows SUBJECT {SUBJECT}");
        SAID.is("four", SAID.good(1, "person knows push gas metal draw;").who(2, 0), 0);
        SAID.bad(1, "person knows ^;");
        SAID.bad(1, "person knows ^away 1 to 2;");
    }

    private static void numberedAsTheyStand() {
        SAID.says("I", "POTS 0 .. 7, PIPES 0 .. 11, ROOMS 0 .. 11, PERSONS 0 .. 11, CHANGES 0 .. 19 are numbered each as they stand.");
        StringBuilder pots = new StringBuilder();
        for (int k = 0; k < 8; k++) {
            pots.append("pot step ").append(k + 1).append(" holds ").append(10 + k).append(";run 1 at ").append(10 + k).append(';');
        }
        BellowsRow x = SAID.good(16, pots.toString());
        for (int k = 0; k < 8; k++) {
            SAID.is("height " + k, x.height(k), -(k + 1) * (k + 2) / 2);
            SAID.is("bursts " + k, x.bursts(k), k == 7 ? -1 : k + 1);
        }
        SAID.is("no POT 8", x.height(8), NOTHING);
        SAID.is("no POT -1", x.height(-1), NOTHING);
        StringBuilder pipes = new StringBuilder(POT + POT);
        StringBuilder rooms = new StringBuilder(POT + POT + "run 1 at 1;pipe 0 to 1 bore 1 by right 100 bellows 0 life 1;");
        for (int k = 0; k < 12; k++) {
            pipes.append("pipe 0 to 1 bore ").append(k + 1).append(" by right 100 bellows 0 life 1;");
            rooms.append("room at 50 0 day 0 night ").append(1 << k > 999 ? 999 : 1 << k).append(" flame;wind up 1;".substring(0, k == 3 ? 17 : 7));
        }
        BellowsRow y = SAID.good(14, pipes.toString());
        BellowsRow z = SAID.good(17, rooms.toString());
        for (int k = 0; k < 12; k++) {
            SAID.is("WEIGHT " + k, y.pipe(k, 4), 100 * (k + 1));
            SAID.is("without ROOM " + k, z.moved(0, 0, k, 999, 0), k > 9 ? 999 : 1 << k);
        }
        SAID.is("no PIPE 12", y.pipe(12, 4), NOTHING);
        SAID.is("no PIPE -1", y.pipe(-1, 4), NOTHING);
        SAID.is("all ROOMS", z.taken(0, 0), 4095);
        SAID.is("no ROOM 12", z.moved(0, 0, 12, 0, 0), NOTHING);
        SAID.is("no ROOM -1", z.moved(0, 0, -1, 0, 0), NOTHING);
        askingNumbers();
    }

    private static void askingNumbers() {
        StringBuilder persons = new StringBuilder("rule pot asks draw;");
        StringBuilder changes = new StringBuilder();
        for (int k = 0; k < 12; k++) {
            persons.append("person knows draw away 0 to ").append(20 - k).append(';');
        }
        for (int k = 0; k < 20; k++) {
            changes.append("change pot day ").append(900 + k).append(" needs draw;");
        }
        BellowsRow x = SAID.good(33, persons.toString() + changes);
        SAID.is("all away", x.who(0, 9), -1);
        for (int k = 0; k < 12; k++) {
            SAID.is("first on day " + (21 - k), x.who(0, 21 - k), k);
            SAID.is("staying " + k, x.staying(k), 0);
        }
        SAID.is("no PERSON 12", x.staying(12), -2);
        SAID.is("no PERSON -1", x.staying(-1), -2);
        SAID.is("all CHANGES", x.whole(), (1 << 20) - 1);
        for (int k = 0; k < 20; k++) {
            SAID.is("asked " + k, x.asked(k, 0), 1);
        }
        SAID.is("no CHANGE 20", x.asked(20, 0), -2);
        SAID.is("no CHANGE -1", x.asked(-1, 0), -2);
        // the 20th alone is on a DAY when somebody is there
        BellowsRow y = SAID.good(22, RULE + "person knows gas away 0 to 8;" + CHANGE.repeat(19) + "change pot day 9 needs gas;");
        SAID.is("the last CHANGE", y.whole(), 1 << 19);
        SAID.is("staying", y.staying(0), 19);
    }

    private static void ways() {
        SAID.says("I", "WAY: left | right | up | down.");
        String ahead = POT + POT + "pipe 0 to 1 bore 1 by right 100 bellows 0 life 1;run 1 at 0;room at 900 500 day 1 night 1 flame;wind ";
        int[][] after = {{40, 0}, {60, 0}, {50, 10}, {50, -10}};
        String[] ways = {"left", "right", "up", "down"};
        for (int way = 0; way < 4; way++) {
            BellowsRow x = SAID.good(6, ahead + ways[way] + " 10;");
            for (int i = 0; i < 4; i++) {
                // PRESS 0 reaches 0: a ROOM is in it only where the CLOUD just is
                SAID.is(ways[way] + ", a ROOM " + ways[i], x.moved(0, 0, 0, after[i][0], after[i][1]), way == i ? -1 : 0);
            }
        }
        SAID.bad(1, "wind ^east 1;");
        SAID.bad(1, "wind ^1;");
        SAID.bad(1, "wind left ^left 1;");
    }

    private static void subjectsAndKinds() {
        String[] subjects = {"draw", "push", "metal", "gas"};
        String[] kinds = {"pot", "pipe", "prop", "press"};
        for (int s = 0; s < 4; s++) {
            SAID.says("I", "SUBJECT: draw | push | metal | gas (0 .. 3).");
            BellowsRow x = SAID.good(3, "person knows " + subjects[s] + ";rule pot asks " + subjects[s] + ";change pot day 0 needs " + subjects[s] + ";");
            for (int other = 0; other < 4; other++) {
                SAID.is("knows " + other, x.who(other, 0), other == s ? 0 : -1);
            }
            SAID.is("asks", x.count(6), 1 << s);
            SAID.is("needs", x.asked(0, 0), 1 << s);
            SAID.says("I", "KIND: pot | pipe | prop | press (0 .. 3).");
            BellowsRow y = SAID.good(2, "rule " + kinds[s] + " asks draw;change " + kinds[s] + " day 0 needs gas;");
            SAID.is("asks of KIND " + s, y.count(6), 1 << 4 * s);
            for (int other = 0; other < 4; other++) {
                SAID.is("held by KIND " + other, y.held(8 << 4 * other, false), other == s ? 1 : 0);
            }
        }
        SAID.bad(1, "rule ^room asks gas;");
        SAID.bad(1, "change ^gas day 1 needs gas;");
        SAID.says("I", "SUBJECT: draw | push | metal | gas (0 .. 3).");
        SAID.bad(1, "rule pot asks ^pot;");
        SAID.bad(1, "rule pot asks gas ^press;");
    }

    private static void potBounds() {
        SAID.says("I", "step 0 .. 99 (how much lower than the one ahead; of POT 0 than 0)");
        SAID.bounds("pot step ", 0, 99, " holds 9;");
        SAID.bounds(POT + "pot step ", 0, 99, " holds 9;");
        BellowsRow x = SAID.good(8, "pot step 99 holds 9;".repeat(7) + POT);
        SAID.is("POT 0 than 0", x.height(0), -99);
        SAID.is("POT 6", x.height(6), -693);
        SAID.is("POT 7, a step of 0", x.height(7), -693);
        SAID.says("I", "holds 0 .. 999");
        SAID.bounds("pot step 0 holds ", 0, 999, ";");
        BellowsRow y = SAID.good(5, "pot step 0 holds 0;pot step 0 holds 998;pot step 0 holds 999;run 1 at 0;run 1 at 999;");
        SAID.is("holds 0", y.bursts(0), 1);
        SAID.is("holds 998", y.bursts(1), 1);
        SAID.is("holds 999", y.bursts(2), -1);
    }

    private static void pipeBounds() {
        String end = " bore 1 by right 100 bellows 0 life 1;";
        SAID.says("I", "P a POT told ahead (the second above the first)");
        SAID.good(9, POT.repeat(8) + "pipe 6 to 7" + end);
        SAID.good(9, POT.repeat(8) + "pipe 0 to 7 bore 1 by right 700 bellows 0 life 1;");
        SAID.bad(2, "pipe ^0 to 1" + end);
        SAID.bad(2, POT + "pipe 0 to ^1" + end);
        SAID.bad(2, POT + "pipe 0 to ^1" + end + POT);
        SAID.bad(2, POT + POT + "pipe 0 to ^2" + end);
        SAID.bad(2, POT + POT + "pipe ^2 to 3" + end);
        SAID.bad(2, POT.repeat(8) + "pipe 0 to ^8" + end);
        SAID.bad(2, POT.repeat(8) + "pipe ^8 to 9" + end);
        SAID.bad(2, POT.repeat(3) + "pipe 1 to ^1" + end);
        SAID.bad(2, POT.repeat(3) + "pipe 1 to ^0" + end);
        SAID.good(4, POT.repeat(3) + "pipe 1 to 2" + end);
        SAID.bad(2, POT.repeat(3) + "pipe 2 to ^3" + end);
        SAID.says("I", "bore 1 .. 40");
        SAID.bounds(POTS + "pipe 0 to 1 bore ", 1, 40, " by right 100 down 5 bellows 0 life 1;");
        String ahead = POTS + "pipe 0 to 1 bore 1 by right 100 down 5 bellows ";
        SAID.says("I", "bellows, stay 0 .. 30000");
        SAID.bounds(ahead, 0, 30000, " life 1;");
        SAID.bounds(ahead + "0 life 1 stay ", 0, 30000, ";");
        SAID.bounds(ahead + "0 life 1 prop stay ", 0, 30000, ";");
        SAID.is("both at most", SAID.good(3, ahead + "30000 life 1 stay 30000;").pipe(0, 7), 60000);
        SAID.is("both at least", SAID.good(3, ahead + "0 life 1 stay 0;").pipe(0, 7), 0);
        SAID.says("I", "life 1 .. 9999");
        SAID.bounds(ahead + "0 life ", 1, 9999, ";");
        // LOAD 50 wears 1 at each change, 100 wears 51: 196 changes wear 9996
        String worn = "pot step 0 holds 9;pot step 1 holds 9;pipe 0 to 1 bore 1 by right 100 down 1 bellows 100 life ";
        String hours = " prop;swing 100 and 0 for 391;swing 52 and 0 for 2;";
        SAID.is("life 9999", SAID.good(5, worn + 9999 + hours).goes(0), 391);
        SAID.is("life 9998", SAID.good(5, worn + 9998 + hours.replace("52", "51")).goes(0), 391);
        SAID.is("life 9999 is not reached", SAID.good(5, worn + 9999 + hours.replace("52", "51")).goes(0), -1);
        SAID.is("life 1", SAID.good(4, worn + "1 prop;run 1 at 50;").goes(0), 0);
    }

    private static void moveBounds() {
        String ahead = POTS + "pipe 0 to 1 bore 1 by ";
        String end = " bellows 0 life 1;";
        SAID.says("I", "MOVE 1 .. 900");
        SAID.good(3, ahead + "right 1 right 99 down 1 down 4" + end);
        SAID.good(3, ahead + "up 1 right 100 down 6" + end);
        SAID.good(3, ahead + "up 895 right 100 down 900" + end);
        SAID.good(3, ahead + "up 900 right 100 down 900 down 5" + end);
        for (String way : new String[] {"right ", "up ", "down "}) {
            SAID.bad(2, ahead + way + "^0 right 100 down 5" + end);
            SAID.bad(2, ahead + way + "^901 right 100 down 5" + end);
            // in its bounds, and far off
            SAID.bad(2, ahead + way + "900 right 100 down 5 ^" + end.trim());
        }
        SAID.says("I", "eight MOVES at most");
        SAID.good(3, ahead + "right 90 down 5 " + "right 1 ".repeat(5) + "right 5" + end);
        SAID.bad(3, ahead + "right 90 down 5 " + "right 1 ".repeat(6) + "^right 4" + end);
        SAID.bad(3, ahead + "right 90 down 5 " + "right 1 ".repeat(5) + "right 5 ^up 1 down 1" + end);
        SAID.bad(3, ahead + "right 1 ".repeat(8) + "^down 1" + end);
        // the ninth need not be whole
        SAID.bad(3, ahead + "right 1 ".repeat(8) + "^right");
        SAID.bad(1, ahead + "right 1 ".repeat(8) + "^left 1" + end);
        SAID.bad(2, ahead + "right 1 ".repeat(8) + "^" + end.trim());
        SAID.bad(1, ahead + "right 1 ".repeat(8) + "^");
    }

    private static void hourBounds() {
        SAID.says("I", "run, for 1 .. 1000 HOURS (2,000 in all)");
        SAID.bounds("run ", 1, 1000, " at 1;");
        SAID.bounds("swing 1 and 2 for ", 1, 1000, ";");
        SAID.is("1000 by run", SAID.good(1, "run 1000 at 1;").count(2), 1000);
        SAID.is("1000 by swing", SAID.good(1, "swing 1 and 2 for 1000;").count(2), 1000);
        String most = "run 1000 at 1;swing 2 and 3 for 999;";
        SAID.is("2000 by run", SAID.good(3, most + "run 1 at 4;").press(1999), 4);
        SAID.is("2000 by swing", SAID.good(3, most + "swing 4 and 5 for 1;").press(1999), 4);
        SAID.is("no HOUR 2000", SAID.good(3, most + "run 1 at 4;").press(2000), -2);
        SAID.bad(2, most + "run ^2 at 4;");
        SAID.bad(2, most + "swing 4 and 5 for ^2;");
        SAID.bad(2, most + "run 1 at 4;run ^1 at 4;");
        SAID.bad(2, most + "run 1 at 4;swing 4 and 5 for ^1;");
        SAID.bad(2, most + "run ^0 at 4;");
        SAID.says("I", "at, and 0 .. 999 (PRESSES)");
        SAID.bounds("run 1 at ", 0, 999, ";");
        SAID.bounds("swing ", 0, 999, " and 1 for 1;");
        SAID.bounds("swing 1 and ", 0, 999, " for 1;");
        BellowsRow x = SAID.good(3, "run 1 at 999;swing 999 and 0 for 2;swing 0 and 999 for 2;");
        int[] due = {999, 999, 0, 0, 999};
        for (int h = 0; h < due.length; h++) {
            SAID.is("press " + h, x.press(h), due[h]);
        }
    }

    private static void windAndRoomBounds() {
        SAID.says("I", "wind 0 .. 50");
        for (String way : new String[] {"left ", "right ", "up ", "down "}) {
            SAID.bounds("wind " + way, 0, 50, ";");
        }
        String ahead = POT + POT + "pipe 0 to 1 bore 1 by right 100 bellows 0 life 1;run 1 at 0;room at 900 500 day 1 night 1 flame;";
        SAID.is("wind 50", SAID.good(6, ahead + "wind right 50;").moved(0, 0, 0, 100, 0), -1);
        SAID.is("wind 0", SAID.good(6, ahead + "wind right 0;").moved(0, 0, 0, 50, 0), -1);
        SAID.says("I", "X, Y 0 .. 999 (X of ROOMS; Y: 0 .. 500)");
        SAID.bounds("room at ", 0, 999, " 0 day 0 night 0;");
        SAID.bounds("room at 0 ", 0, 500, " day 0 night 0;");
        SAID.good(1, "room at 999 500 day 0 night 0;");
        SAID.bad(2, "room at 999 ^501 day 0 night 0;");
        SAID.bad(2, "room at ^1000 501 day 0 night 0;");
        SAID.says("I", "day, night 0 .. 999");
        SAID.bounds("room at 0 0 day ", 0, 999, " night 0;");
        SAID.bounds("room at 0 0 day 0 night ", 0, 999, ";");
        String room = POT + POT + "pipe 0 to 1 bore 1 by right 100 bellows 0 life 1;run 9 at 0;room at 50 0 day ";
        SAID.is("day 999", SAID.good(5, room + "999 night 0 flame;").lives(0, 8), 999);
        SAID.is("night 0", SAID.good(5, room + "999 night 0 flame;").lives(0, 7), 0);
        SAID.is("day 0", SAID.good(5, room + "0 night 999 flame;").lives(0, 8), 0);
        SAID.is("night 999", SAID.good(5, room + "0 night 999 flame;").lives(0, 7), 999);
    }

    private static void dayBounds() {
        SAID.says("I", "D 0 .. 999 (the second not below the first)");
        SAID.bounds("change pot day ", 0, 999, " needs gas;");
        SAID.bounds("person knows gas away ", 0, 999, " to 999;");
        SAID.bounds("person knows gas away 0 to ", 0, 999, ";");
        SAID.good(1, "person knows gas away 500 to 500;");
        SAID.good(1, "person knows gas away 500 to 501;");
        SAID.bad(2, "person knows gas away 500 to ^499;");
        SAID.bad(2, "person knows gas away 1 to ^0;");
        SAID.bad(2, "person knows gas away 999 to ^998;");
        SAID.bad(2, "person knows gas away 999 to ^1000;");
        BellowsRow x = SAID.good(4, "rule pot asks gas;person knows gas away 0 to 998;change pot day 998 needs gas;change pot day 999 needs gas;");
        SAID.is("day 999", x.whole(), 2);
        BellowsRow y = SAID.good(4, "rule pot asks gas;person knows gas away 1 to 999;change pot day 0 needs gas;change pot day 1 needs gas;");
        SAID.is("day 0", y.whole(), 1);
    }

    private static void onceOnly() {
        SAID.says("I", "wind once at most.");
        SAID.good(0, "");
        SAID.good(1, "wind up 1;");
        SAID.bad(2, "wind up 1;^wind up 1;");
        SAID.bad(2, "wind up 0;^wind up 0;");
        SAID.bad(2, "wind up 1;" + RULE + "^wind down 1;");
        BellowsRow x = SAID.good(1, "wind up 1;");
        Due.tape(x, "wind down 1;");
        SAID.is("once in each WORKS", x.works(), 1);
        SAID.says("I", "A SUBJECT twice counts once.");
        SAID.is("asks", SAID.good(1, "rule pot asks gas gas;").count(6), 8);
        SAID.is("asks, by two RULES", SAID.good(2, RULE + RULE).count(6), 8);
        BellowsRow y = SAID.good(3, "rule pot asks gas;person knows gas draw gas draw gas;change pot day 0 needs gas gas gas;");
        SAID.is("knows", y.who(3, 0), 0);
        SAID.is("knows not", y.who(1, 0), -1);
        SAID.is("needs", y.asked(0, 0), 8);
        SAID.is("whole", y.whole(), 1);
        SAID.is("in vain", y.held(8, true), 0);
        SAID.is("rules", y.rules(16), 8);
        SAID.good(1, "rule pot asks" + " gas".repeat(396) + ";");
    }

    private static void blanks() {
        SAID.says("I", "TOKENS, blanks (32, 10) aside, the longest: words (a .. z), numbers (digits), the sign ; .");
        SAID.good(0, " ");
        SAID.good(0, "\n");
        SAID.good(0, " \n".repeat(800));
        SAID.good(1, "\n\n run \n 1\nat  1 \n;\n");
        SAID.good(1, "run1at1;");
        SAID.good(2, "run1at1;run1at1;");
        for (int b = 0; b < 256; b++) {
            char sign = (char) b;
            if (b == 32 || b == 10) {
                SAID.good(2, "run 1 at 1;" + sign + RULE);
                SAID.good(1, "run" + sign + "1 at 1;");
                continue;
            }
            SAID.bad(1, "run 1 at 1;^" + sign + RULE);
            boolean isDigit = b >= '0' && b <= '9';
            boolean isLetter = b >= 'a' && b <= 'z';
            if (isDigit) {
                SAID.bad(1, "run 1" + sign + " ^1 at 1;");
            } else {
                SAID.bad(1, isLetter ? "^run" + sign + " 1 at 1;" : "run^" + sign + " 1 at 1;");
            }
        }
    }

    private static void words() {
        SAID.says("I", "the longest: words (a .. z)");
        SAID.bad(1, "^runa 1 at 1;");
        SAID.bad(1, "^runz 1 at 1;");
        SAID.bad(1, "^arun 1 at 1;");
        SAID.bad(1, "^zrun 1 at 1;");
        SAID.bad(1, "^ru 1 at 1;");
        SAID.bad(1, "^r un 1 at 1;");
        SAID.bad(1, "run^` 1 at 1;");
        SAID.bad(1, "run^{ 1 at 1;");
        SAID.bad(1, "^Run 1 at 1;");
        SAID.bad(1, "run 1 at 1^A;");
        SAID.bad(1, "^runrun 1 at 1;");
        SAID.bad(1, "room at 0 0 day 0 night 0 ^flames;");
        SAID.bad(1, "room at 0 0 day 0 night 0 ^flam;");
    }

    private static void numbers() {
        SAID.says("I", "the longest: words (a .. z), numbers (digits)");
        SAID.is("0 and 9 are digits", SAID.good(1, "run 1 at 909;").press(0), 909);
        SAID.is("noughts ahead", SAID.good(1, "run 0001 at 0000000000000000000000009;").press(0), 9);
        SAID.is("noughts alone", SAID.good(1, "run 1 at 00000;").press(0), 0);
        SAID.bad(1, "run 1 at 1^/;");
        SAID.bad(1, "run 1 at 1^:;");
        SAID.bad(1, "run 1 at 1^<;");
        SAID.bad(1, "run 1 at ^-1;");
        SAID.bad(1, "run 1 at ^+1;");
        SAID.bad(1, "run 1 at 1^.0;");
        SAID.bad(1, "run 1 at 1 ^2;");
        SAID.bad(1, "run 1 at 1^a;");
        SAID.bad(2, "run 1 at ^1234;");
        // numbers that wrap round to good ones in 32 and in 64 bits
        SAID.bad(2, "run 1 at ^4294967297;");
        SAID.bad(2, "run ^4294967297 at 1;");
        SAID.bad(2, "run 1 at ^18446744073709551617;");
        SAID.bad(2, "run 1 at ^2147483648;");
        SAID.bad(2, "run 1 at ^" + "9".repeat(1500) + ";");
        SAID.bad(2, POTS + "pipe ^4294967296 to 1 bore 1");
        SAID.bad(2, "run 1 at ^1000000;");
        SAID.bad(2, "run 1 at ^9999999;");
        SAID.bad(2, "run 1 at ^10000000;");
    }

    private static void firstByPlace() {
        SAID.says("I", "FAULTS, the first by its place (a TOKEN's first byte; the end's)");
        SAID.bad(2, "run 1 at ^1000; # ; wind");
        SAID.bad(1, "run 1 ^# 1000;");
        SAID.bad(3, POT.repeat(8) + "^pot step 100 # ");
        SAID.bad(2, POT.repeat(7) + "pot step ^100 holds 9;" + POT);
        SAID.bad(2, POTS + "pipe 0 to 1 bore ^41 by " + "right 1 ".repeat(9));
        SAID.bad(1, "^nonsense");
        SAID.bad(1, "   ^nonsense");
        SAID.bad(2, "run 1 at   \n ^1000   ;");
        SAID.bad(1, "run 1 at 1^");
        SAID.bad(1, "run 1 at 1 ^");
        SAID.bad(1, "run 1 at 1 \n\n ^");
        SAID.bad(1, "run^");
        // the end, where end() put it: bytes beyond are none
        BellowsRow x = new BellowsRow();
        Due.tape(x, "run 1 at 1;");
        x.end(10);
        SAID.is("cut ahead of the sign", x.works(), -4);
        SAID.is("its place", x.fault(1), 10);
        SAID.says("I", "of one place the least");
        SAID.bad(1, RULE.repeat(60) + "^rules");
        SAID.bad(1, RULE.repeat(60) + "^;");
        SAID.bad(1, RULE.repeat(60) + "^7");
        SAID.bad(1, RULE.repeat(60) + "^#");
        SAID.bad(2, "wind up 1;" + RULE.repeat(59) + "^wind up 1;");
        SAID.bad(3, RULE.repeat(60) + "^wind up 1;");
        SAID.bad(3, POT.repeat(8) + RULE.repeat(52) + "^pot");
    }

    private static void faultOne() {
        SAID.says("I", "1 a TOKEN that is none, or can't stand there.");
        SAID.bad(1, "^#");
        SAID.bad(1, "run 1 at 1; ^\u0000");
        SAID.bad(1, "run 1 at 1; ^\u00ff");
        SAID.bad(1, "^step 0 holds 0;");
        SAID.bad(1, "^right 1;");
        SAID.bad(1, "^7;");
        SAID.bad(1, "pot ^pot step 0 holds 0;");
        // a number where none can stand is FAULT 1, however great
        SAID.bad(1, "run 1 ^99999 at 1;");
        SAID.bad(1, "^99999");
        SAID.bad(1, POTS + "pipe ^to 1");
        SAID.bad(1, POTS + "pipe 0 to ^to");
        // HOURS are full, and what stands there is no number
        SAID.bad(1, "run 1000 at 1;run 1000 at 1;run ^at 1;");
    }

    private static void faultTwo() {
        SAID.says("I", "2 a number out of its bounds, a P not as said;");
        SAID.bad(2, "pot step ^100 holds 0;");
        SAID.bad(2, "pipe ^0 to 1;");
        SAID.bad(2, POTS + "pipe 1 to ^1;");
        SAID.says("I", "HOURS beyond 2,000 (at run's, for's number)");
        SAID.bad(2, "run 1000 at 1;run 999 at 1;run ^2 at 1;");
        SAID.bad(2, "run 1000 at 1;run 1000 at 1;swing 0 and 0 for ^1;");
        SAID.bad(2, "swing 0 and 0 for 1000;swing 0 and 0 for 1000;run ^1 at 1;");
        SAID.bad(2, "run 1000 at 1;run 1000 at 1;run ^1000 at 1;");
        SAID.says("I", "wind told already (at the word)");
        SAID.bad(2, "wind up 1; ^wind # ");
        SAID.says("I", "MOVES that do not come to the second POT (at the word bellows).");
        String ahead = POTS + "pipe 0 to 1 bore 1 by ";
        String[] astray = {"right 99 down 5", "right 101 down 5", "right 100 down 4", "right 100 down 6", "right 100 up 5", "right 100", "down 5"};
        for (String moves : astray) {
            SAID.bad(2, ahead + moves + " ^bellows 0 life 1;");
        }
        SAID.good(3, ahead + "right 100 down 5 bellows 0 life 1;");
        SAID.bad(1, ahead + "right 99 down 5 ^life 0;");
        SAID.bad(1, ahead + "right 99 down 5^");
        SAID.bad(2, ahead + "right 99 down 5 ^bellows 30001;");
    }

    private static void faultThree() {
        SAID.says("I", "3 a 9th POT, 13th PIPE, ROOM, PERSON, 21st CHANGE, 61st LINE (at its first TOKEN)");
        SAID.is("8 POTS", SAID.good(8, POT.repeat(8)).count(0), 8);
        SAID.bad(3, POT.repeat(8) + "^" + POT);
        SAID.bad(3, POT.repeat(8) + RULE + "^pot");
        SAID.is("12 PIPES", SAID.good(14, POTS + PIPE.repeat(12)).count(1), 12);
        SAID.bad(3, POTS + PIPE.repeat(12) + "^" + PIPE);
        SAID.is("12 ROOMS", SAID.good(12, ROOM.repeat(12)).count(3), 12);
        SAID.bad(3, ROOM.repeat(12) + "^" + ROOM);
        SAID.is("12 PERSONS", SAID.good(12, PERSON.repeat(12)).count(4), 12);
        SAID.bad(3, PERSON.repeat(12) + "^" + PERSON);
        SAID.is("20 CHANGES", SAID.good(20, CHANGE.repeat(20)).count(5), 20);
        SAID.bad(3, CHANGE.repeat(20) + "^" + CHANGE);
        SAID.is("60 LINES", SAID.good(60, "run 1 at 1;".repeat(60)).count(7), 60);
        SAID.bad(3, "run 1 at 1;".repeat(60) + "^run 1 at 1;");
        SAID.bad(3, "run 1 at 1;".repeat(60) + "^swing");
        // RULES and HOURS have no number of their own: LINES alone end them
        SAID.good(60, "swing 1 and 2 for 1;".repeat(60));
        // full of several at once
        String full = POTS + PIPE.repeat(12) + ROOM.repeat(12) + PERSON.repeat(12);
        BellowsRow x = SAID.good(60, full + "run 1 at 1;".repeat(22));
        SAID.is("PIPES beside others", x.count(1), 12);
        SAID.is("ROOMS beside others", x.count(3), 12);
        SAID.is("PERSONS beside others", x.count(4), 12);
        SAID.says("I", "a ninth MOVE (at it)");
        String ahead = POTS + "pipe 0 to 1 bore 1 by " + "right 10 ".repeat(7);
        SAID.good(3, ahead.replace("by right 10 ", "by right 40 ") + "down 5 bellows 0 life 1;");
        SAID.bad(3, ahead + "right 30 ^down 5 bellows 0 life 1;");
    }

    private static void slots() {
        SAID.says("I", "SLOTS 0 .. 3 have rows of numbers of 1, 2, 4 or 8 bytes (WIDTH 0 .. 3), at most 60, or nothing.");
        BellowsRow x = new BellowsRow();
        for (int slot = 0; slot < 4; slot++) {
            SAID.is("nothing in " + slot, x.judge(slot), -6);
            SAID.is("60 in " + slot, x.row(slot, slot, 60), 0);
            SAID.is("61 in " + slot, x.row(slot, slot, 61), -2);
            SAID.is("the last in " + slot, x.write(slot, 59, 1L), 0);
            SAID.is("none beyond in " + slot, x.write(slot, 60, 1L), -7);
        }
        SAID.is("SLOTS", x.count(9), 4);
        SAID.is("no SLOT 4", x.row(4, 0, 1), -2);
        SAID.is("no SLOT -1", x.row(-1, 0, 1), -2);
        SAID.is("no WIDTH 4", x.row(0, 4, 1), -2);
        SAID.is("no WIDTH -1", x.row(0, -1, 1), -2);
    }
}
