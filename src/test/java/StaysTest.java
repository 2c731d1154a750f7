import java.util.ArrayList;
import java.util.List;

/**
 * What other calls show behind a call that is refused, or that only asks: two objects are made
 * alike, one of them gets the call, and then all that can be asked is asked of both.
 */
public final class StaysTest {
    private static final Said SAID = new Said("StaysTest");
    private static final int NOTHING = Texts.NOTHING;

    private static final String KEPT = "pot step 7 holds 3;run 2 at 4;rule prop asks push;";
    private static final String NOW = "pot step 0 holds 60;pot step 1 holds 100;pot step 2 holds 999;"
        + "pipe 0 to 1 bore 1 by right 100 down 1 bellows 100 life 60 prop;"
        + "pipe 0 to 2 bore 2 by right 50 down 3 right 150 bellows 700 life 100 stay 100;"
        + "run 2 at 50;swing 60 and 49 for 3;run 1 at 101;wind right 2;"
        + "room at 60 0 day 7 night 3 flame;room at 176 0 day 5 night 9;"
        + "person knows draw push away 10 to 20;person knows gas;"
        + "rule pot asks draw gas;change pot day 15 needs draw gas;change pot day 9 needs draw gas;change pipe day 3 needs metal;";

    private interface Call {
        long on(BellowsRow x);
    }

    /** WORKS, an IMAGE of others, a FAULT told, a TAPE that is not read yet, three SLOTS with rows. */
    private static BellowsRow made() {
        BellowsRow x = Due.made(KEPT);
        x.keep(1);
        Due.tape(x, NOW);
        x.works();
        Due.tape(x, "run 1 at 1000;");
        x.works();
        Due.tape(x, "run 3 at 7;wind left 4;");
        Due.row(x, 0, 1, 50, 50, 60, 49, 60, 101);
        Due.row(x, 1, 1, 0, 100, 2, 1);
        Due.row(x, 2, 3, 50, 1L << 40);
        return x;
    }

    private static int[] counts(BellowsRow x) {
        int[] got = new int[10];
        for (int what = 0; what < got.length; what++) {
            got[what] = x.count(what);
        }
        return got;
    }

    private static void addAll(List<Long> seen, int... numbers) {
        for (int n : numbers) {
            seen.add((long) n);
        }
    }

    /** All that can be asked; the TAPE and the IMAGES are read last, for that changes the WORKS. */
    private static List<Long> shown(BellowsRow x) {
        List<Long> seen = new ArrayList<>();
        addAll(seen, counts(x));
        addAll(seen, x.fault(0), x.fault(1), x.first(0), x.first(1), x.next(0, 0), x.next(100, 1), x.show(), x.trial(500), x.whole(), x.rules(3));
        for (int pot = 0; pot < 4; pot++) {
            addAll(seen, x.height(pot), x.bursts(pot));
        }
        for (int k = 0; k < 3; k++) {
            for (int what = 0; what < 8; what++) {
                addAll(seen, x.pipe(k, what));
            }
            addAll(seen, x.bend(k, 0, 0), x.bend(k, 1, 1), x.load(k, 77), x.bows(k), x.goes(k), x.why(k), x.stay(k), x.cap(k), x.wear(k, 5));
            addAll(seen, x.lights(k, 2), x.taken(k, 2), x.lives(k, 2), x.when(k, 0, 6), x.risk(k, 0, 6), x.other(0, k), x.lever(1, k));
            addAll(seen, x.asked(k, 0), x.asked(k, 1), x.asked(k, 2), x.asked(k, 3));
            seen.add(x.need(k, 77));
        }
        for (int i = 0; i < 7; i++) {
            addAll(seen, x.press(i), x.who(i % 4, 15));
        }
        addAll(seen, x.staying(0), x.staying(1), x.held(9, false), x.held(9, true), x.moved(0, 2, 0, 999, 0), x.safest(0, 2, 1));
        for (int slot = 0; slot < 4; slot++) {
            addAll(seen, x.judge(slot), x.write(slot, 1, 50), x.judge(slot), x.paste(slot, 0, 1, 0, 1), x.judge(1));
        }
        addAll(seen, x.works(), x.fault(0), x.fault(1));
        addAll(seen, counts(x));
        addAll(seen, x.press(2));
        for (int k = 0; k < 3; k++) {
            addAll(seen, x.back(k));
            addAll(seen, counts(x));
        }
        return seen;
    }

    private static final List<Long> AS_MADE = shown(made());

    /** The call, twice, on an object as made; what is shown then is what was shown of one without the call. */
    private static void stays(String name, long due, Call call) {
        BellowsRow x = made();
        SAID.is(name, call.on(x), due);
        SAID.is(name + ", once more", call.on(x), due);
        List<Long> seen = shown(x);
        int unlike = -1;
        for (int i = 0; i < AS_MADE.size() && unlike < 0; i++) {
            unlike = seen.get(i).equals(AS_MADE.get(i)) ? -1 : i;
        }
        SAID.is(name + ": the first answer behind it that is unlike", unlike, -1);
    }

    public static void main(String[] args) {
        nothingIsLikeNothing();
        tapeRefused();
        slotsRefused();
        imagesRefused();
        askedForNone();
        onlyAsked();
        faultyWorks();
        fullTape();
        SAID.end();
    }

    /** What is shown does show a change: each of these calls is seen behind. */
    private static void nothingIsLikeNothing() {
        SAID.says("2", "Twenty bytes come behind the TAPE");
        SAID.is("LINES of the WORKS", made().count(7), 17);
        SAID.is("a FAULT", made().fault(0), 2);
        List<Call> changes = List.of(x -> x.feed(1, 2, 3, 4, 5), x -> x.end(22), x -> x.works(), x -> x.keep(0), x -> x.keep(1), x -> x.keep(2), x -> x.back(1),
            x -> x.row(0, 1, 6), x -> x.row(3, 0, 0), x -> x.row(1, 1, 4), x -> x.row(2, 3, 2), x -> x.write(0, 5, 100), x -> x.write(1, 3, 2), x -> x.write(2, 0, 51),
            x -> x.paste(0, 0, 1, 0, 1), x -> x.paste(1, 0, 0, 0, 1), x -> x.paste(0, 0, 0, 2, 1));
        for (int i = 0; i < changes.size(); i++) {
            BellowsRow x = made();
            changes.get(i).on(x);
            SAID.is("change " + i + " is seen", shown(x).equals(AS_MADE) ? 1 : 0, 0);
        }
    }

    private static void tapeRefused() {
        SAID.says("3", "NONE, and nothing happens, if it has not so many, or n is below 0.");
        for (int n : Texts.outside(0, 23)) {
            stays("end " + n, -1, x -> x.end(n));
        }
        stays("end of all", 23, x -> x.end(23));
    }

    private static void slotsRefused() {
        for (int slot : Texts.outside(0, 3)) {
            SAID.says("46", "-2: there is no such SLOT or WIDTH (0 .. 3), or n is above 60;");
            stays("row of SLOT " + slot, -2, x -> x.row(slot, 0, 3));
            stays("row of WIDTH " + slot, -2, x -> x.row(0, slot, 3));
            SAID.says("47", "-2: there is no such SLOT; -6: it has nothing; -7: there is no such number.");
            stays("write to SLOT " + slot, -2, x -> x.write(slot, 0, 3));
            SAID.says("48", "-2: there is no such SLOT; -6: one has nothing; -8: they are not of one WIDTH;");
            stays("paste from SLOT " + slot, -2, x -> x.paste(slot, 0, 0, 0, 1));
            stays("paste to SLOT " + slot, -2, x -> x.paste(0, 0, slot, 0, 1));
        }
        SAID.says("46", "or n is above 60;");
        stays("row of 61", -2, x -> x.row(0, 1, 61));
        stays("row of 61 where nothing is", -2, x -> x.row(3, 1, 61));
        stays("row of the most", -2, x -> x.row(2, 1, Integer.MAX_VALUE));
        SAID.says("46", "-3, and the SLOT stays: n is below 0.");
        stays("row of -1", -3, x -> x.row(0, 1, -1));
        stays("row of -1, another WIDTH", -3, x -> x.row(1, 3, -1));
        stays("row of -1 where nothing is", -3, x -> x.row(3, 1, -1));
        stays("row of the least", -3, x -> x.row(2, 1, Integer.MIN_VALUE));
        SAID.says("47", "-6: it has nothing; -7: there is no such number.");
        stays("write to nothing", -6, x -> x.write(3, 0, 1));
        for (int i : Texts.outside(0, 5)) {
            stays("write to number " + i, -7, x -> x.write(0, i, 1));
        }
        SAID.says("48", "-6: one has nothing; -8: they are not of one WIDTH;");
        stays("paste from nothing", -6, x -> x.paste(3, 0, 0, 0, 1));
        stays("paste to nothing", -6, x -> x.paste(0, 0, 3, 0, 1));
        stays("paste to another WIDTH", -8, x -> x.paste(0, 0, 2, 0, 1));
        stays("paste from another WIDTH", -8, x -> x.paste(2, 0, 0, 0, 1));
        SAID.says("48", "-7, and nothing happens: some are beyond their rows, or a place or n is below 0.");
        int[][] wrong = {{0, 0, 5}, {3, 0, 4}, {6, 0, 1}, {0, 4, 1}, {0, 3, 2}, {-1, 0, 1}, {0, -1, 1}, {0, 0, -1}, {Integer.MAX_VALUE, 0, 1}, {0, Integer.MAX_VALUE, 1},
            {0, 0, Integer.MAX_VALUE}, {1, 1, Integer.MAX_VALUE}, {Integer.MIN_VALUE, 0, 1}, {0, Integer.MIN_VALUE, 1}, {0, 0, Integer.MIN_VALUE}};
        for (int[] w : wrong) {
            stays("paste from " + w[0] + " to " + w[1] + ", " + w[2], -7, x -> x.paste(0, w[0], 1, w[1], w[2]));
        }
        stays("paste to itself beyond", -7, x -> x.paste(0, 0, 0, 1, 6));
        stays("paste none", 0, x -> x.paste(0, 6, 1, 4, 0));
        stays("paste to where they are", 0, x -> x.paste(0, 0, 0, 0, 6));
    }

    private static void imagesRefused() {
        for (int k : Texts.outside(0, 2)) {
            SAID.says("44", "-2: no such k.");
            stays("keep " + k, -2, x -> x.keep(k));
            SAID.says("45", "-2: no such k; -6: it has nothing.");
            stays("back " + k, -2, x -> x.back(k));
        }
        stays("back to nothing", -6, x -> x.back(0));
        stays("back to nothing, the last", -6, x -> x.back(2));
    }

    /** Calls for what is not there change nothing either. */
    private static void askedForNone() {
        SAID.says("24", "-2: there are none such, a number is none such, none or more than eight;");
        for (int none : new int[] {-1, 12, Integer.MIN_VALUE, Integer.MAX_VALUE}) {
            stays("lever of PIPE " + none, -2, x -> x.lever(1, none));
            stays("lever of SLOT " + none, -2, x -> x.lever(none, 0));
            stays("others of " + none, 14 * -2 + 4L * NOTHING + 2 * -1, x -> (long) x.height(none) + x.pipe(none, 0) + x.bend(none, 0, 0) + x.need(none, 0) + x.load(none, 0)
                + x.bows(none) + x.goes(none) + x.why(none) + x.under(none, 0) + x.stay(none) + x.cap(none) + x.prop(none, true) + x.widen(none, 1)
                + x.reach(none, 0, 1) + x.moved(none, 0, 0, 0, 0) + x.safest(none, 0, 0) + x.staying(none) + x.asked(none, 0) + x.fault(none) + x.count(none));
            SAID.says("43", "-2: there are none such; -6: it has nothing.");
            stays("other of PIPE " + none, -2, x -> x.other(0, none));
            stays("other of SLOT " + none, -2, x -> x.other(none, 0));
        }
        stays("other of nothing", -6, x -> x.other(3, 0));
        stays("lever of nothing", -6, x -> x.lever(3, 0));
        stays("lever astray", -5, x -> x.lever(1, 1));
        stays("lever of PRESSES", -2, x -> x.lever(0, 0));
    }

    private static void onlyAsked() {
        SAID.says("43", "The HOUR in which a PIPE would go, if PRESSES were a SLOT's row");
        stays("other", 5, x -> x.other(0, 0));
        stays("other of less", 1, x -> x.other(2, 0));
        SAID.says("24", "LEVER of a PIPE by other MOVES");
        stays("lever", 100, x -> x.lever(1, 0));
        stays("would be", 0, x -> {
            x.under(0, 500);
            x.under(1, -500);
            x.stay(0);
            x.cap(1);
            x.prop(0, false);
            x.prop(1, true);
            x.widen(0, 40);
            x.moved(0, 2, 0, -500, -500);
            x.safest(0, 2, 0);
            x.staying(0);
            x.rules(16);
            x.held(65535, true);
            x.when(0, 0, 200);
            x.risk(1, 0, 200);
            x.next(0, 0);
            return 0;
        });
    }

    private static void faultyWorks() {
        SAID.says("4", "-4: a FAULT (all stays).");
        BellowsRow x = made();
        BellowsRow twin = made();
        Due.tape(x, "run 3 at 7;wind left 4;pot");
        SAID.is("faulty", x.works(), -4);
        Due.tape(twin, "run 3 at 7;wind left 4;pot");
        SAID.is("fault, the new one", x.fault(0), 1);
        SAID.is("place, the new one", x.fault(1), 26);
        List<Long> seen = shown(x);
        List<Long> due = shown(twin);
        // the FAULT of the latest works() alone is another: the tenth and eleventh answers
        seen.set(10, due.get(10));
        seen.set(11, due.get(11));
        SAID.is("all stays", seen.equals(due) ? 0 : 1, 0);
    }

    private static void fullTape() {
        SAID.says("2", "NONE, and none come, if it would have more than 1,600.");
        BellowsRow x = made();
        BellowsRow twin = made();
        for (BellowsRow b : new BellowsRow[] {x, twin}) {
            Due.tape(b, "run 3 at 7;wind left 4;" + " ".repeat(1558));
        }
        SAID.is("none come", x.feed(0x23232323, 0x23232323, 0x23232323, 0x23232323, 0x23232323), -1);
        SAID.is("all stays", shown(x).equals(shown(twin)) ? 0 : 1, 0);
        BellowsRow y = made();
        BellowsRow other = made();
        for (BellowsRow b : new BellowsRow[] {y, other}) {
            Due.tape(b, "run 3 at 7;wind left 4;" + " ".repeat(1577));
        }
        SAID.is("none come to a full one", y.feed(0, 0, 0, 0, 0), -1);
        SAID.is("all of it stays", shown(y).equals(shown(other)) ? 0 : 1, 0);
    }
}
