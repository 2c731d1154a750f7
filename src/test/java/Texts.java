/** Texts and numbers that the tests of boundary cases share. */
final class Texts {
    static final int NOTHING = -2000000000;
    static final String POT = "pot step 0 holds 9;";
    /** A PIPE without a LEVER, and so without a PUSH. */
    static final String FLAT = "pipe 0 to 1 bore 1 by right 100 bellows 0 life 1;";

    private Texts() {
    }

    /** Two POTS and a PIPE whose NEED is 100 times PRESS: with HOLDS 100 its LOAD is the PRESS. */
    static String pushed(int holds, int life) {
        return "pot step 0 holds 999;pot step 1 holds 999;" + pipe(holds, life);
    }

    /** Another PIPE of that kind, for the same two POTS. */
    static String pipe(int holds, int life) {
        return "pipe 0 to 1 bore 1 by right 100 down 1 bellows " + holds + " life " + life + " prop;";
    }

    /** Two POTS and a PIPE whose LOAD is so much at every PRESS, by its weight. */
    static String weighty(int load, int life) {
        return POT + POT + "pipe 0 to 1 bore 1 by right 100 bellows " + 10000 / load + " life " + life + ";";
    }

    /** A CLOUD from 50, 0 whose reach's square is PRESS times minutes, in HOUR 0. */
    static String cloud(int press) {
        return POT + POT + FLAT + "run 1 at " + press + ";";
    }

    static String room(int x, int y, int people) {
        return "room at " + x + " " + y + " day " + people + " night " + people + ";";
    }

    static String flame(int x, int y, int people) {
        return "room at " + x + " " + y + " day " + people + " night " + people + " flame;";
    }

    /** Numbers that are none of least .. most: the next ones on both sides, and such as wrap round. */
    static int[] outside(int least, int most) {
        return new int[] {least - 1, most + 1, least - 2, most + 2, Integer.MIN_VALUE, Integer.MIN_VALUE + 1, Integer.MAX_VALUE, Integer.MAX_VALUE - 1,
            least - 256, least - 65536, most + 256, most + 65536, 1 << 30, -1 << 30};
    }
}
