/** Texts with their FAULT and its place, and texts that just have none. */
public final class FaultsTest {
    private static final Due DUE = new Due("FaultsTest");
    private static final String POTS = "pot step 0 holds 9;pot step 5 holds 9;";

    public static void main(String[] args) {
        tokens();
        pots();
        pipes();
        hours();
        windsAndRooms();
        asking();
        tooMany();
        cutShort();
        cutInside("run 1 atop", 8, 8);
        cutInside("run 12", 5, 5);
        cutInside("run 1 at 1; ", 10, 10);
        cutInside("run 1 at 1;;", 11, -1);
        DUE.end();
    }

    /** The FAULT is where the sign ^ stands in the text, which is taken out. */
    private static void bad(int what, String marked) {
        int place = marked.indexOf('^');
        String text = marked.replace("^", "");
        BellowsRow x = new BellowsRow();
        Due.tape(x, text);
        DUE.is("works [" + text + "]", x.works(), -4);
        DUE.is("fault [" + text + "]", x.fault(0), what);
        DUE.is("place [" + text + "]", x.fault(1), place);
        DUE.is("lines [" + text + "]", x.count(7), 0);
    }

    /** What end() has cut off is not read, though it goes on with the TOKEN that was cut. */
    private static void cutInside(String text, int n, int place) {
        BellowsRow x = new BellowsRow();
        Due.tape(x, text);
        x.end(n);
        DUE.is("works [" + text + "] cut to " + n, x.works(), place < 0 ? 1 : -4);
        DUE.is("fault [" + text + "] cut to " + n, x.fault(0), place < 0 ? 0 : 1);
        DUE.is("place [" + text + "] cut to " + n, x.fault(1), place);
    }

    private static void good(int lines, String text) {
        BellowsRow x = new BellowsRow();
        Due.tape(x, text);
        DUE.is("works [" + text + "]", x.works(), lines);
        DUE.is("fault [" + text + "]", x.fault(0), 0);
        DUE.is("place [" + text + "]", x.fault(1), -1);
    }

    private static String times(int n, String text) {
        return text.repeat(n);
    }

    private static void tokens() {
        good(0, "");
        good(0, " \n ");
        good(1, "run1at0;");
        good(1, "\n run\n0001 at 000000000000000000000;  ");
        bad(1, "^;");
        bad(1, "run 1 at 0;^;");
        bad(1, "^\trun 1 at 0;");
        bad(1, "run^\t1 at 0;");
        bad(1, "^Run 1 at 0;");
        bad(1, "^r un 1 at 0;");
        bad(1, "^runs 1 at 0;");
        bad(1, "^ru 1 at 0;");
        bad(1, "^7;");
        bad(1, "run 1 at 0^,");
        bad(1, "run 1 at ^-1;");
        bad(1, "run 1 at 0^\u00e9;");
        bad(1, "run 1 at 0^\u0000;");
        bad(1, "run 1 at 0;^\u0080");
        bad(1, "run 1 ^att 0;");
        bad(1, "run 1 at 0 ^1;");
        bad(1, "run 1 at 0^a;");
        bad(1, "run 1 at 0 ^run 1 at 0;");
        bad(1, "^potz step 0 holds 0;");
        bad(1, "^apot step 0 holds 0;");
        bad(2, "run 1 at ^99999999999999999999;");
        bad(2, "run 1 at ^4294967296;");
    }

    private static void pots() {
        good(1, "pot step 99 holds 999;");
        good(1, "pot step 0 holds 0;");
        bad(2, "pot step ^100 holds 0;");
        bad(2, "pot step 0 holds ^1000;");
        bad(1, "pot ^holds 0 step 0;");
        bad(1, "pot step ^holds 0;");
        bad(1, "pot step 0 ^0;");
        bad(1, "pot step 0 holds ^;");
        bad(2, "pot step ^100 # holds 0;");
        bad(1, "pot step ^# 100;");
    }

    private static void pipes() {
        String end = " bellows 0 life 1;";
        good(3, POTS + "pipe 0 to 1 bore 40 by right 100 down 5 bellows 30000 life 9999 prop stay 30000;");
        good(3, POTS + "pipe 0 to 1 bore 1 by up 895 right 100 down 900" + end);
        good(3, POTS + "pipe 0 to 1 bore 1 by right 100 down 5 bellows 0 life 1 stay 0;");
        bad(2, "pipe ^0 to 1");
        bad(2, "pot step 0 holds 9;pipe 0 to ^1 bore 1;");
        bad(2, POTS + "pipe ^2 to 1");
        bad(2, POTS + "pipe 0 to ^2");
        bad(2, POTS + "pipe 0 to ^0");
        bad(2, POTS + "pipe 1 to ^0");
        bad(2, POTS + "pipe 1 to ^1");
        bad(1, POTS + "pipe 0 ^1");
        bad(1, POTS + "pipe ^to 1");
        bad(2, POTS + "pipe 0 to 1 bore ^0 by");
        bad(2, POTS + "pipe 0 to 1 bore ^41 by");
        bad(1, POTS + "pipe 0 to 1 bore 1 by ^bellows 1");
        bad(1, POTS + "pipe 0 to 1 bore 1 by ^left 1");
        bad(1, POTS + "pipe 0 to 1 bore 1 by ^;");
        bad(2, POTS + "pipe 0 to 1 bore 1 by right ^0");
        bad(2, POTS + "pipe 0 to 1 bore 1 by right ^901");
        bad(2, POTS + "pipe 0 to 1 bore 1 by right 99 down 5 ^bellows 0 life 1;");
        bad(2, POTS + "pipe 0 to 1 bore 1 by right 100 down 4 ^bellows 0 life 1;");
        bad(2, POTS + "pipe 0 to 1 bore 1 by right 100 up 5 ^bellows 0 life 1;");
        bad(1, POTS + "pipe 0 to 1 bore 1 by right 99 ^life 1;");
        bad(1, POTS + "pipe 0 to 1 bore 1 by right 99 ^;");
        bad(2, POTS + "pipe 0 to 1 bore 1 by right 100 down 5 bellows ^30001 life 1;");
        bad(2, POTS + "pipe 0 to 1 bore 1 by right 100 down 5 bellows 0 life ^0;");
        bad(2, POTS + "pipe 0 to 1 bore 1 by right 100 down 5 bellows 0 life ^10000;");
        bad(2, POTS + "pipe 0 to 1 bore 1 by right 100 down 5 bellows 0 life 1 stay ^30001;");
        bad(1, POTS + "pipe 0 to 1 bore 1 by right 100 down 5 bellows 0 life 1 stay 1 ^prop;");
        bad(1, POTS + "pipe 0 to 1 bore 1 by right 100 down 5 bellows 0 life 1 prop ^prop;");
        bad(1, POTS + "pipe 0 to 1 bore 1 by right 100 down 5 bellows 0 life 1 prop stay ^;");
        good(3, POTS + "pipe 0 to 1 bore 1 by " + times(6, "right 10 ") + "right 40 down 5" + end);
        bad(3, POTS + "pipe 0 to 1 bore 1 by " + times(8, "right 10 ") + "^right 20 down 5" + end);
        bad(1, POTS + "pipe 0 to 1 bore 1 by " + times(8, "right 10 ") + "^left 20 down 5" + end);
        bad(2, POTS + "pipe 0 to 1 bore 1 by " + times(8, "right 10 ") + "^bellows");
        bad(1, POTS + "pipe 0 to 1 bore 1 by " + times(8, "right 10 ") + "^");
        // a POT told behind is not told ahead
        bad(2, "pot step 0 holds 9;pipe 0 to ^1 bore 1 by right 100 bellows 0 life 1;pot step 0 holds 9;");
    }

    private static void hours() {
        good(1, "run 1000 at 999;");
        bad(2, "run ^0 at 1;");
        bad(2, "run ^1001 at 1;");
        bad(2, "run 1 at ^1000;");
        good(1, "swing 999 and 999 for 1000;");
        bad(2, "swing ^1000 and 1 for 1;");
        bad(2, "swing 1 and ^1000 for 1;");
        bad(2, "swing 1 and 1 for ^0;");
        bad(2, "swing 1 and 1 for ^1001;");
        bad(1, "swing 1 ^for 1;");
        bad(1, "swing 1 and 1 ^at 1;");
        good(2, "run 1000 at 1;swing 1 and 2 for 1000;");
        bad(2, "run 1000 at 1;swing 1 and 2 for 1000;run ^1 at 1;");
        bad(2, "run 1000 at 1;run 999 at 1;swing 3 and 2 for ^2;");
        bad(1, "run 1000 at 1;swing 1 and 2 for 1000;run ^at 1;");
        bad(2, "run 1000 at 1;run 999 at 1;run ^2 at 1000;");
        good(3, "run 1000 at 1;run 999 at 1;swing 3 and 2 for 1;");
    }

    private static void windsAndRooms() {
        good(1, "wind left 50;");
        good(1, "wind down 0;");
        bad(2, "wind up ^51;");
        bad(1, "wind ^5;");
        bad(1, "wind ^east 5;");
        bad(1, "wind right ^;");
        bad(2, "wind up 1;^wind up 1;");
        bad(2, "wind up 0;^wind");
        bad(1, "wind up 1;^winds up 1;");
        good(1, "room at 999 500 day 999 night 999 flame;");
        good(1, "room at 0 0 day 0 night 0;");
        bad(2, "room at ^1000 0 day 0 night 0;");
        bad(2, "room at 0 ^501 day 0 night 0;");
        bad(2, "room at 0 0 day ^1000 night 0;");
        bad(2, "room at 0 0 day 0 night ^1000;");
        bad(1, "room ^0 0 day 0 night 0;");
        bad(1, "room at 0 ^day 0 night 0;");
        bad(1, "room at 0 0 ^night 0;");
        bad(1, "room at 0 0 day 0 night 0 flame ^flame;");
        bad(1, "room at 0 0 day 0 night 0 ^flames;");
    }

    private static void asking() {
        good(1, "person knows draw push metal gas gas draw away 0 to 999;");
        good(1, "person knows draw away 5 to 5;");
        bad(1, "person knows ^away 5 to 5;");
        bad(1, "person knows ^;");
        bad(1, "person knows draw ^pot;");
        bad(2, "person knows draw away ^1000 to 5;");
        bad(2, "person knows draw away 5 to ^4;");
        bad(2, "person knows draw away 5 to ^1000;");
        bad(1, "person knows draw away 5 ^7;");
        bad(1, "person ^draw;");
        bad(1, "person knows draw away 5 to 7 ^gas;");
        good(4, "rule pot asks draw;rule pipe asks draw draw;rule prop asks gas metal;rule press asks push;");
        bad(1, "rule ^room asks draw;");
        bad(1, "rule pot ^needs draw;");
        bad(1, "rule pot asks ^;");
        bad(1, "rule pot asks draw ^7;");
        good(1, "change press day 999 needs gas;");
        bad(2, "change press day ^1000 needs gas;");
        bad(1, "change ^day 9 needs gas;");
        bad(1, "change pot ^needs gas;");
        bad(1, "change pot day 9 ^asks gas;");
        bad(1, "change pot day 9 needs ^;");
        bad(1, "change pot day 9 needs gas ^away 1 to 2;");
    }

    private static void tooMany() {
        String pot = "pot step 0 holds 9;";
        String room = "room at 0 0 day 0 night 0;";
        String person = "person knows gas;";
        String change = "change pot day 0 needs gas;";
        String pipe = "pipe 0 to 1 bore 1 by right 100 bellows 0 life 1;";
        good(8, times(8, pot));
        bad(3, times(8, pot) + "^" + pot);
        bad(3, times(8, pot) + "^pot nonsense");
        good(12, times(12, room));
        bad(3, times(12, room) + "^" + room);
        good(12, times(12, person));
        bad(3, times(12, person) + "^" + person);
        good(20, times(20, change));
        bad(3, times(20, change) + "^" + change);
        good(14, times(2, pot) + times(12, pipe));
        bad(3, times(2, pot) + times(12, pipe) + "^" + pipe);
        String rule = "rule pot asks gas;";
        good(60, times(60, rule));
        bad(3, times(60, rule) + "^" + rule);
        bad(1, times(60, rule) + "^;");
        bad(1, times(60, rule) + "^rules");
        bad(1, times(60, rule) + "^5");
        bad(3, times(60, rule) + "^wind");
        bad(2, times(59, rule) + "wind up 1;^wind up 1;");
        good(60, times(59, rule) + "wind up 1; \n");
        good(60, times(60, "run 1 at 1;"));
        bad(3, times(60, "run 1 at 1;") + "^run 1 at 1;");
    }

    /** A text that is cut short has FAULT 1 at its end, blanks at the end or not. */
    private static void cutShort() {
        String[] lines = {"pot step 0 holds 9 ;", "run 1 at 0 ;", "swing 1 and 2 for 3 ;", "wind left 5 ;",
            "room at 1 2 day 3 night 4 flame ;", "person knows draw gas away 1 to 2 ;", "rule prop asks push metal ;",
            "change press day 3 needs draw gas ;", POTS + "pipe 0 to 1 bore 1 by right 100 down 5 bellows 1 life 1 prop stay 1 ;"};
        for (String line : lines) {
            String[] words = line.split(" ");
            StringBuilder ahead = new StringBuilder();
            for (int i = 0; i + 1 < words.length; i++) {
                ahead.append(words[i]);
                if (!words[i].endsWith(";pot") && !words[i].endsWith(";")) {
                    bad(1, ahead + "^");
                    bad(1, ahead + " \n ^");
                }
                ahead.append(' ');
            }
        }
    }
}
