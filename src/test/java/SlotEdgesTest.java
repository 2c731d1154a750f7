/** Promises 42 to 48 by their sentences: SLOTS and their rows, IMAGES. */
public final class SlotEdgesTest {
    private static final Said SAID = new Said("SlotEdgesTest");
    private static final String POT = Texts.POT;

    private static void is(String call, long got, long want) {
        SAID.is(call, got, want);
    }

    public static void main(String[] args) {
        judge();
        other();
        otherRefused();
        keep();
        back();
        row();
        rowRefused();
        write();
        cut();
        writeRefused();
        paste();
        pasteToItself();
        pasteRefused();
        SAID.end("42", "43", "44", "45", "46", "47", "48");
    }

    private static void judge() {
        SAID.says("42", "How many HOURS of a SLOT's row of PRESSES (from HOUR 0 on) are so as they are, ahead of the first that is not (beyond HOURS: not).");
        BellowsRow x = Due.made("run 2 at 5;run 1 at 0;run 1 at 999;");
        Due.row(x, 0, 1, 5, 5, 0, 999);
        is("all", x.judge(0), 4);
        Due.row(x, 0, 1, 5, 5, 0);
        is("all of a shorter row", x.judge(0), 3);
        Due.row(x, 0, 1, 5, 5, 0, 999, 0);
        is("beyond HOURS", x.judge(0), 4);
        Due.row(x, 0, 1, 5, 5, 0, 998);
        is("the last is not", x.judge(0), 3);
        Due.row(x, 0, 1, 4, 5, 0, 999);
        is("the first is not", x.judge(0), 0);
        Due.row(x, 0, 1, 5, 6, 0, 999);
        is("those behind the first that is not do not count", x.judge(0), 1);
        Due.row(x, 0, 1);
        is("a row of no numbers", x.judge(0), 0);
        Due.row(x, 3, 3, 5);
        is("SLOT 3", x.judge(3), 1);
        Due.row(x, 3, 3, 5 + (1L << 32));
        is("a number that would wrap round", x.judge(3), 0);
        Due.row(x, 3, 3, -5);
        is("a number below 0", x.judge(3), 0);
        BellowsRow none = new BellowsRow();
        Due.row(none, 0, 1, 0, 0);
        is("no HOURS", none.judge(0), 0);
        BellowsRow all = Due.made("run 1000 at 0;");
        all.row(0, 0, 60);
        is("sixty", all.judge(0), 60);
        SAID.says("42", "-2: there is no such SLOT; -6: it has nothing.");
        for (int slot : Texts.outside(0, 3)) {
            is("SLOT " + slot, x.judge(slot), -2);
        }
        is("nothing in 1", x.judge(1), -6);
        is("nothing in 2", x.judge(2), -6);
    }

    private static void other() {
        SAID.says("43", "The HOUR in which a PIPE would go, if PRESSES were a SLOT's row (cut to 0 .. 999), HOURS as many as it has; NONE: never.");
        BellowsRow x = Due.made(Texts.pushed(100, 9999) + Texts.pipe(990, 9999) + "run 1 at 500;");
        Due.row(x, 0, 1, 0, 100, 101);
        is("in the last", x.other(0, 0), 2);
        Due.row(x, 0, 1, 101, 0);
        is("in the first", x.other(0, 0), 0);
        Due.row(x, 0, 1, 100, 100);
        is("never", x.other(0, 0), -1);
        Due.row(x, 0, 1);
        is("no HOURS", x.other(0, 0), -1);
        Due.row(x, 0, 3, 999, 1000, Long.MAX_VALUE, 1L << 32);
        is("cut to 999", x.other(0, 1), -1);
        is("cut to 999, not to less", x.other(0, 0), 0);
        Due.row(x, 0, 3, -1, -999, Long.MIN_VALUE, -(1L << 32) + 500);
        is("cut to 0", x.other(0, 0), -1);
        Due.row(x, 3, 3, 0, Long.MAX_VALUE);
        is("SLOT 3", x.other(3, 0), 1);
        is("HOURS stay", x.goes(0), 0);
        is("HOURS stay as many", x.count(2), 1);
        BellowsRow y = Due.made(Texts.weighty(100, 52));
        Due.row(y, 0, 3, -5, -7, 0);
        is("below 0 is alike with 0", y.other(0, 0), -1);
        Due.row(y, 0, 3, 999, 1000, 1001);
        is("above 999 is alike with 999", y.other(0, 0), -1);
        Due.row(y, 0, 3, 999, 998, 1000);
        is("unlike ones", y.other(0, 0), 1);
        Due.row(y, 0, 3, 0, 1, 0);
        is("HOUR 0 at 0 is not unlike", y.other(0, 0), 2);
        BellowsRow z = Due.made(Texts.pushed(100, 9999));
        z.row(1, 0, 60);
        is("sixty, never", z.other(1, 0), -1);
        z.write(1, 59, 101);
        is("the sixtieth", z.other(1, 0), 59);
    }

    private static void otherRefused() {
        BellowsRow x = Due.made(Texts.pushed(100, 9999));
        x.row(0, 0, 3);
        SAID.says("43", "-2: there are none such; -6: it has nothing.");
        for (int slot : Texts.outside(0, 3)) {
            is("SLOT " + slot, x.other(slot, 0), -2);
        }
        for (int k : Texts.outside(0, 0)) {
            is("PIPE " + k, x.other(0, k), -2);
            is("PIPE " + k + ", a SLOT of nothing", x.other(1, k), -2);
        }
        for (int slot = 1; slot < 4; slot++) {
            is("nothing in " + slot, x.other(slot, 0), -6);
        }
    }

    private static void keep() {
        SAID.says("44", "IMAGE k (0 .. 2) keeps the WORKS: 0.");
        BellowsRow x = new BellowsRow();
        for (int k = 0; k < 3; k++) {
            Due.tape(x, "run " + (k + 1) + " at 5;");
            x.works();
            is("keep " + k, x.keep(k), 0);
        }
        x.works();
        for (int k = 2; k >= 0; k--) {
            is("back " + k, x.back(k), 0);
            is("HOURS of " + k, x.count(2), k + 1);
        }
        is("back to the last", x.back(2), 0);
        is("keep over another", x.keep(0), 0);
        x.works();
        x.back(0);
        is("the later one", x.count(2), 3);
        x.back(1);
        is("others stay", x.count(2), 2);
        BellowsRow none = new BellowsRow();
        is("no WORKS are kept too", none.keep(1), 0);
        Due.tape(none, POT);
        none.works();
        is("back to none", none.back(1), 0);
        is("none", none.count(0), 0);
        SAID.says("44", "-2: no such k.");
        for (int k : Texts.outside(0, 2)) {
            is("keep " + k, x.keep(k), -2);
        }
        BellowsRow fresh = new BellowsRow();
        fresh.keep(3);
        fresh.keep(-1);
        for (int k = 0; k < 3; k++) {
            is("nothing kept in " + k, fresh.back(k), -6);
        }
    }

    private static void back() {
        SAID.says("45", "They are as IMAGE k has them: 0.");
        String text = Texts.pushed(100, 1) + "run 1 at 101;wind up 5;" + Texts.flame(50, 6, 4) + "person knows gas;rule pot asks gas;change pot day 0 needs gas;";
        BellowsRow x = Due.made(text);
        x.keep(2);
        Due.tape(x, "#");
        x.works();
        x.row(0, 0, 5);
        Due.tape(x, POT);
        x.works();
        Due.tape(x, "wind up");
        is("back", x.back(2), 0);
        int[] counts = {2, 1, 1, 1, 1, 1, 8, 9, 7, 1};
        for (int what = 0; what < counts.length; what++) {
            is("count " + what, x.count(what), counts[what]);
        }
        is("goes", x.goes(0), 0);
        is("lives", x.lives(0, 0), 4);
        is("whole", x.whole(), 1);
        is("the latest works() is the same", x.fault(0), 0);
        is("back once more", x.back(2), 0);
        is("the IMAGE has them still", x.count(7), 9);
        SAID.says("45", "-2: no such k; -6: it has nothing.");
        for (int k : Texts.outside(0, 2)) {
            is("back " + k, x.back(k), -2);
        }
        is("nothing in 0", x.back(0), -6);
        is("nothing in 1", x.back(1), -6);
        is("WORKS stay", x.count(7), 9);
    }

    private static void row() {
        SAID.says("46", "A SLOT (0 .. 3) has a row of n numbers of a WIDTH, all 0 (in place of another one): 0.");
        BellowsRow x = Due.made("run 1000 at 0;");
        for (int slot = 0; slot < 4; slot++) {
            for (int width = 0; width < 4; width++) {
                is("SLOT " + slot + " WIDTH " + width, x.row(slot, width, 60), 0);
                is("all 0", x.judge(slot), 60);
                is("the last", x.write(slot, 59, 1), 0);
                is("not all 0", x.judge(slot), 59);
                is("in place of another one, as long", x.row(slot, width, 60), 0);
                is("all 0 again", x.judge(slot), 60);
                x.write(slot, 59, 1);
                is("in place of another one, shorter", x.row(slot, width, 1), 0);
                is("one", x.judge(slot), 1);
                is("none beyond", x.write(slot, 1, 1), -7);
                is("longer", x.row(slot, width, 60), 0);
                is("the old ones do not come back", x.judge(slot), 60);
            }
        }
        is("none", x.row(0, 0, 0), 0);
        is("none are alike", x.judge(0), 0);
        is("no number 0", x.write(0, 0, 1), -7);
        is("it is a row", x.count(9), 4);
        is("others stay", x.judge(1), 60);
    }

    private static void rowRefused() {
        SAID.says("46", "-2: there is no such SLOT or WIDTH (0 .. 3), or n is above 60;");
        BellowsRow x = Due.made("run 1000 at 7;");
        Due.row(x, 1, 1, 7, 7, 7);
        for (int wrong : Texts.outside(0, 3)) {
            is("SLOT " + wrong, x.row(wrong, 0, 1), -2);
            is("WIDTH " + wrong, x.row(1, wrong, 1), -2);
            is("WIDTH " + wrong + " in another SLOT", x.row(0, wrong, 1), -2);
        }
        for (int n : new int[] {61, 62, 256, 65536, 65596, Integer.MAX_VALUE}) {
            is("n " + n, x.row(1, 1, n), -2);
            is("n " + n + " in another SLOT", x.row(0, 1, n), -2);
        }
        is("the row stays", x.judge(1), 3);
        is("none came", x.count(9), 1);
        SAID.says("46", "-3, and the SLOT stays: n is below 0.");
        for (int n : new int[] {-1, -2, -60, -61, -256, Integer.MIN_VALUE}) {
            is("n " + n, x.row(1, 1, n), -3);
            is("n " + n + " in another SLOT", x.row(0, 1, n), -3);
            is("n " + n + ", another WIDTH", x.row(1, 3, n), -3);
        }
        is("the SLOT stays", x.judge(1), 3);
        is("its WIDTH stays", x.write(1, 0, 65536 + 7), 0);
        is("it is cut as before", x.judge(1), 3);
        is("nothing stays nothing", x.judge(0), -6);
    }

    private static void write() {
        SAID.says("47", "Number i of the SLOT's row is v, cut to its WIDTH: 0.");
        BellowsRow x = Due.made("run 1000 at 7;");
        for (int slot = 0; slot < 4; slot++) {
            x.row(slot, slot, 60);
            for (int i = 0; i < 60; i++) {
                is("number " + i + " of " + slot, x.write(slot, i, 7), 0);
            }
            is("all of " + slot, x.judge(slot), 60);
        }
        is("one other", x.write(2, 30, 8), 0);
        is("it alone", x.judge(2), 30);
        is("back again", x.write(2, 30, 7), 0);
        is("all again", x.judge(2), 60);
        is("other SLOTS stay", x.judge(1), 60);
    }

    /** Whether a number of a WIDTH, as it was cut, is a PRESS: judge tells, for HOUR 0 has it. */
    private static int stands(int width, long v, int press) {
        BellowsRow x = Due.made("run 1 at " + press + ";");
        Due.row(x, 0, width, v);
        return x.judge(0);
    }

    private static void cut() {
        SAID.says("47", "Number i of the SLOT's row is v, cut to its WIDTH: 0.");
        is("127 of a byte", stands(0, 127, 127), 1);
        is("128 of a byte is below 0", stands(0, 128, 128), 0);
        is("256 of a byte", stands(0, 256, 0), 1);
        is("257 of a byte", stands(0, 257, 1), 1);
        is("-255 of a byte", stands(0, -255, 1), 1);
        is("-256 of a byte", stands(0, -256, 0), 1);
        is("999 of a byte", stands(0, 999, 999), 0);
        is("999 of two", stands(1, 999, 999), 1);
        is("65536 of two", stands(1, 65536, 0), 1);
        is("65536 and 999 of two", stands(1, 65536 + 999, 999), 1);
        is("-65537 and 1000 of two", stands(1, -65537 + 1000, 999), 1);
        is("65536 of four", stands(2, 65536, 0), 0);
        is("2 to the 32 and 999 of four", stands(2, (1L << 32) + 999, 999), 1);
        is("the least of all of four", stands(2, Long.MIN_VALUE, 0), 1);
        is("2 to the 32 and 999 of eight", stands(3, (1L << 32) + 999, 999), 0);
        is("999 of eight", stands(3, 999, 999), 1);
        is("the least of all of eight", stands(3, Long.MIN_VALUE, 0), 0);
        // a sign: what is cut to 255, 65535 or all ones is below 0, so that 0 is its PRESS
        BellowsRow x = Due.made(Texts.pushed(100, 9999));
        long[] ones = {255, 65535, 4294967295L, -1L};
        long[] most = {127, 32767, 2147483647L, Long.MAX_VALUE};
        for (int width = 0; width < 4; width++) {
            Due.row(x, 0, width, ones[width]);
            is("all ones of WIDTH " + width, x.other(0, 0), -1);
            Due.row(x, 0, width, most[width]);
            is("the most of WIDTH " + width, x.other(0, 0), 0);
            Due.row(x, 0, width, width == 3 ? Long.MIN_VALUE : most[width] + 1);
            is("one more of WIDTH " + width, x.other(0, 0), -1);
        }
    }

    private static void writeRefused() {
        BellowsRow x = Due.made("run 1000 at 7;");
        Due.row(x, 1, 1, 7, 7, 7);
        SAID.says("47", "-2: there is no such SLOT; -6: it has nothing; -7: there is no such number.");
        for (int slot : Texts.outside(0, 3)) {
            is("SLOT " + slot, x.write(slot, 0, 1), -2);
        }
        for (int slot = 0; slot < 4; slot++) {
            is("SLOT " + slot + ", nothing or a row", x.write(slot, 0, 7), slot == 1 ? 0 : -6);
        }
        for (int i : Texts.outside(0, 2)) {
            is("number " + i, x.write(1, i, 8), -7);
            is("number " + i + " of nothing", x.write(0, i, 8), -6);
        }
        is("the row stays", x.judge(1), 3);
        is("none came", x.count(9), 1);
        x.row(2, 0, 0);
        is("of no numbers", x.write(2, 0, 1), -7);
    }

    private static void paste() {
        SAID.says("48", "So many numbers of a SLOT's row, from one on, are put to another one's (or its own), from one on, as they were: 0.");
        BellowsRow x = Due.made("run 1 at 1;run 1 at 2;run 1 at 3;run 1 at 4;run 1 at 5;");
        Due.row(x, 0, 1, 1, 2, 3, 4, 5);
        x.row(3, 1, 5);
        is("all", x.paste(0, 0, 3, 0, 5), 0);
        is("all are there", x.judge(3), 5);
        is("and here still", x.judge(0), 5);
        x.row(3, 1, 5);
        is("the last to the last", x.paste(0, 4, 3, 4, 1), 0);
        is("the others", x.paste(0, 0, 3, 0, 4), 0);
        is("all again", x.judge(3), 5);
        is("none", x.paste(0, 2, 3, 0, 0), 0);
        is("none at the ends", x.paste(0, 5, 3, 5, 0), 0);
        is("none came", x.judge(3), 5);
        is("from one on", x.paste(0, 2, 3, 1, 1), 0);
        is("to one on", x.judge(3), 1);
        is("one alone", x.paste(0, 1, 3, 1, 1), 0);
        is("those behind stayed", x.judge(3), 5);
        BellowsRow all = Due.made("run 60 at 9;");
        all.row(0, 0, 60);
        all.row(1, 0, 60);
        for (int i = 0; i < 60; i++) {
            all.write(0, i, 9);
        }
        is("sixty", all.paste(0, 0, 1, 0, 60), 0);
        is("sixty are there", all.judge(1), 60);
    }

    private static void pasteToItself() {
        SAID.says("48", "are put to another one's (or its own), from one on, as they were: 0.");
        BellowsRow up = Due.made("run 1 at 1;run 1 at 1;run 1 at 2;run 1 at 3;run 1 at 4;");
        Due.row(up, 0, 1, 1, 2, 3, 4, 5);
        is("one farther", up.paste(0, 0, 0, 1, 4), 0);
        is("as they were", up.judge(0), 5);
        BellowsRow down = Due.made("run 1 at 2;run 1 at 3;run 1 at 4;run 1 at 5;run 1 at 5;");
        Due.row(down, 0, 1, 1, 2, 3, 4, 5);
        is("one nearer", down.paste(0, 1, 0, 0, 4), 0);
        is("as they were", down.judge(0), 5);
        is("where they are", down.paste(0, 0, 0, 0, 5), 0);
        is("as they were", down.judge(0), 5);
        BellowsRow two = Due.made("run 1 at 1;run 1 at 2;run 1 at 1;run 1 at 2;run 1 at 3;");
        Due.row(two, 0, 1, 1, 2, 3, 4, 5);
        is("two farther", two.paste(0, 0, 0, 2, 3), 0);
        is("as they were", two.judge(0), 5);
    }

    private static void pasteRefused() {
        BellowsRow x = Due.made("run 60 at 7;");
        Due.row(x, 0, 1, 7, 7, 7, 7, 7);
        Due.row(x, 1, 1, 7, 7, 7);
        Due.row(x, 2, 2, 7, 7, 7);
        SAID.says("48", "-2: there is no such SLOT; -6: one has nothing; -8: they are not of one WIDTH;");
        for (int slot : Texts.outside(0, 3)) {
            is("from SLOT " + slot, x.paste(slot, 0, 0, 0, 1), -2);
            is("to SLOT " + slot, x.paste(0, 0, slot, 0, 1), -2);
        }
        is("from nothing", x.paste(3, 0, 0, 0, 1), -6);
        is("to nothing", x.paste(0, 0, 3, 0, 1), -6);
        is("nothing to itself", x.paste(3, 0, 3, 0, 0), -6);
        is("to a wider one", x.paste(0, 0, 2, 0, 1), -8);
        is("to a narrower one", x.paste(2, 0, 0, 0, 1), -8);
        is("none to a wider one", x.paste(0, 0, 2, 0, 0), -8);
        SAID.says("48", "-7, and nothing happens: some are beyond their rows, or a place or n is below 0.");
        x.write(0, 4, 6);
        int[][] wrong = {{4, 0, 2}, {5, 0, 1}, {2, 0, 4}, {4, 3, 1}, {4, 2, 2}, {0, 0, 6}, {0, 0, 4}, {-1, 0, 1}, {4, -1, 1}, {4, 0, -1}, {-1, -1, -1}, {5, 3, -1},
            {Integer.MAX_VALUE, 0, 1}, {4, Integer.MAX_VALUE, 1}, {4, 0, Integer.MAX_VALUE}, {Integer.MAX_VALUE, Integer.MAX_VALUE, Integer.MAX_VALUE},
            {Integer.MIN_VALUE, 0, 1}, {4, Integer.MIN_VALUE, 1}, {4, 0, Integer.MIN_VALUE}, {Integer.MAX_VALUE, 0, 2}, {4, Integer.MAX_VALUE, Integer.MIN_VALUE}};
        for (int[] w : wrong) {
            is("from " + w[0] + " to " + w[1] + ", " + w[2], x.paste(0, w[0], 1, w[1], w[2]), -7);
            is("the row stays", x.judge(1), 3);
        }
        is("beyond the row, not its room", x.paste(1, 3, 0, 0, 1), -7);
        is("to beyond the row, not its room", x.paste(0, 4, 1, 3, 1), -7);
        is("to itself beyond", x.paste(0, 0, 0, 1, 5), -7);
        is("from itself beyond", x.paste(0, 1, 0, 0, 5), -7);
        is("nothing happened here", x.judge(0), 4);
        is("nor there", x.judge(1), 3);
    }
}
