import java.nio.charset.StandardCharsets;
import java.util.Arrays;

/** What the tests share: telling answers that are not due, and feeding texts. */
final class Due {
    private int right = 0;
    private int wrong = 0;
    private final String name;

    Due(String name) {
        this.name = name;
    }

    void is(String call, long got, long want) {
        if (got == want) {
            right++;
        } else {
            wrong++;
            System.out.println(name + ": " + call + " answered " + got + ", due is " + want);
        }
    }

    /** Ends with exit code 1 if an answer was not due. */
    void end() {
        System.out.println(name + ": " + right + " answers as due, " + wrong + " not");
        if (wrong != 0 || right == 0) {
            System.exit(1);
        }
    }

    static byte[] bytes(String text) {
        return text.getBytes(StandardCharsets.ISO_8859_1);
    }

    /** The five numbers of each feed() that brings these bytes, the last filled up with blanks. */
    static int[][] feeds(byte[] text) {
        int[][] all = new int[(text.length + 19) / 20][5];
        byte[] whole = Arrays.copyOf(text, all.length * 20);
        Arrays.fill(whole, text.length, whole.length, (byte) ' ');
        for (int i = 0; i < whole.length; i++) {
            all[i / 20][i % 20 / 4] |= (whole[i] & 255) << 24 - i % 4 * 8;
        }
        return all;
    }

    /** Puts a text behind an empty TAPE, so that the TAPE has just its bytes. */
    static void tape(BellowsRow x, String text) {
        byte[] b = bytes(text);
        x.end(0);
        for (int[] f : feeds(b)) {
            x.feed(f[0], f[1], f[2], f[3], f[4]);
        }
        if (x.end(b.length) != b.length) {
            throw new IllegalStateException("too long a text for a test: " + b.length);
        }
    }

    /** Gives a SLOT a row of these numbers. */
    static void row(BellowsRow x, int slot, int width, long... numbers) {
        x.row(slot, width, numbers.length);
        for (int i = 0; i < numbers.length; i++) {
            x.write(slot, i, numbers[i]);
        }
    }

    static BellowsRow made(String text) {
        BellowsRow x = new BellowsRow();
        tape(x, text);
        if (x.works() < 0) {
            throw new IllegalStateException("fault " + x.fault(0) + " at " + x.fault(1) + " of " + text);
        }
        return x;
    }
}
