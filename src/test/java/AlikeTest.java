import java.lang.reflect.Method;
import java.lang.reflect.Modifier;
import java.util.ArrayList;
import java.util.Arrays;
import java.util.List;
import java.util.Random;

/** Random runs of calls: BellowsRow answers as the slow model does. */
public final class AlikeTest {
    private static final String[] SUBJECTS = {"draw", "push", "metal", "gas"};
    private static final String[] KINDS = {"pot", "pipe", "prop", "press"};
    private static final String[] WAYS = {"left", "right", "up", "down"};
    private static final int[] EDGES = {Integer.MIN_VALUE, -1000, -999, -501, -500, -2, -1, 60, 61, 99, 100, 107, 108, 200, 201, 500, 999, 1000, 65535, 65536, Integer.MAX_VALUE};

    private final Due due = new Due("AlikeTest");
    private final Random random;
    private final List<Method> methods = new ArrayList<>();
    private BellowsRow x;
    private Plain plain;
    private int calls;
    private boolean slow;
    private String text = "";

    private AlikeTest(long seed) {
        random = new Random(seed);
        for (Method m : BellowsRow.class.getDeclaredMethods()) {
            if (Modifier.isPublic(m.getModifiers())) {
                methods.add(m);
            }
        }
        methods.sort((a, b) -> a.getName().compareTo(b.getName()));
    }

    private int upTo(int most) {
        return random.nextInt(most + 1);
    }

    private String subjects() {
        StringBuilder b = new StringBuilder();
        int n = 1 + upTo(3);
        for (int i = 0; i < n; i++) {
            b.append(' ').append(SUBJECTS[upTo(3)]);
        }
        return b.toString();
    }

    /** MOVES that come so far right and down, with ways round now and then. */
    private List<int[]> moves(int right, int down) {
        List<int[]> all = new ArrayList<>();
        int up = upTo(3) == 0 ? 0 : 1 + upTo(300);
        if (upTo(1) == 0 && right > 1) {
            int part = 1 + upTo(right - 2);
            all.add(new int[] {0, part});
            all.add(new int[] {0, right - part});
        } else {
            all.add(new int[] {0, right});
        }
        if (up > 0) {
            all.add(upTo(all.size()), new int[] {1, up});
        }
        if (up + down > 0) {
            int at = upTo(all.size());
            int part = up + down > 1 ? upTo(up + down - 1) : 0;
            if (part > 0) {
                all.add(at, new int[] {2, part});
                at = upTo(all.size());
            }
            all.add(at, new int[] {2, up + down - part});
        }
        return all;
    }

    /** Mostly so strong that the LOAD at a PRESS is one at which it wears or bows. */
    private int bellows(Plain.Pipe p, int press) {
        if (upTo(4) == 0) {
            return upTo(3) == 0 ? 0 : upTo(30000);
        }
        long need = p.need(press).longValueExact();
        return (int) Math.min(30000, need / (40 + upTo(80)));
    }

    private String works() {
        StringBuilder b = new StringBuilder();
        List<Integer> heights = new ArrayList<>();
        int height = 0;
        int pots = upTo(9) == 0 ? upTo(8) : 2 + upTo(3);
        int maxPress = new int[] {3, 30, 100, 300, 999}[upTo(4)];
        for (int i = 0; i < pots; i++) {
            int step = upTo(2) == 0 ? 0 : upTo(99);
            height -= step;
            heights.add(height);
            b.append("pot step ").append(step).append(" holds ").append(upTo(1) == 0 ? upTo(999) : upTo(maxPress)).append(";\n");
        }
        int pipes = pots < 2 ? 0 : upTo(9) == 0 ? 12 : upTo(4);
        for (int i = 0; i < pipes; i++) {
            int from = upTo(pots - 2);
            int to = from + 1 + upTo(pots - from - 2);
            Plain.Pipe p = new Plain.Pipe();
            p.bore = upTo(3) == 0 ? 1 + upTo(39) : 1 + upTo(5);
            p.prop = upTo(1) == 0;
            p.moves = moves(100 * (to - from), heights.get(from) - heights.get(to));
            b.append("pipe ").append(from).append(" to ").append(to).append(" bore ").append(p.bore).append(" by");
            for (int[] m : p.moves) {
                b.append(' ').append(new String[] {"right", "up", "down"}[m[0]]).append(m[1]);
            }
            b.append(" bellows ").append(bellows(p, maxPress)).append(" life ").append(1 + upTo(upTo(1) == 0 ? 200 : 9998));
            b.append(p.prop ? " prop" : "").append(upTo(3) == 0 ? " stay" + upTo(upTo(1) == 0 ? 300 : 30000) : "").append(';');
        }
        int left = slow ? 2000 : 90;
        for (int i = upTo(5); i > 0 && left > 0; i--) {
            int many = 1 + upTo(Math.min(left, 1000) - 1);
            left -= many;
            b.append(upTo(1) == 0 ? "run " + many + " at " + upTo(maxPress) : "swing " + upTo(maxPress) + " and " + upTo(maxPress) + " for " + many).append(" ; ");
        }
        if (upTo(2) > 0) {
            b.append("wind ").append(WAYS[upTo(3)]).append(' ').append(upTo(upTo(1) == 0 ? 5 : 50)).append(";");
        }
        for (int i = upTo(9) == 0 ? 12 : upTo(5); i > 0; i--) {
            b.append("room at ").append(upTo(upTo(1) == 0 ? 999 : 400)).append(' ').append(upTo(upTo(1) == 0 ? 500 : 100)).append(" day ").append(upTo(50)).append(" night ").append(upTo(50)).append(upTo(2) == 0 ? " flame;" : ";");
        }
        for (int i = upTo(4); i > 0; i--) {
            int first = upTo(30);
            b.append("person knows").append(subjects()).append(upTo(1) == 0 ? " away " + first + " to " + (first + upTo(20)) : "").append(";");
        }
        for (int i = upTo(5); i > 0; i--) {
            b.append("rule ").append(KINDS[upTo(3)]).append(" asks").append(subjects()).append(";");
        }
        for (int i = upTo(9) == 0 ? 20 : upTo(6); i > 0; i--) {
            b.append("change ").append(KINDS[upTo(3)]).append(" day ").append(upTo(40)).append(" needs").append(subjects()).append(";");
        }
        return b.length() > 1600 ? "" : b.toString();
    }

    /** The same text with some of it gone, twice, or other. */
    private byte[] spoilt(String good) {
        byte[] b = Due.bytes(good);
        for (int i = upTo(2); i >= 0 && b.length > 0; i--) {
            int from = upTo(b.length - 1);
            int to = Math.min(b.length, from + upTo(8));
            String s = new String(b, java.nio.charset.StandardCharsets.ISO_8859_1);
            String[] other = {"", s.substring(from, to) + s.substring(from, to), " ", "0", "9", ";", "A", "pot", " right 1", " 5", "\t", "\u00e9", "wind up 1;", "prop", "stay 1", "bellows", "pipe 0 to 1", "31000", "to", "flame", "away 3 to 2"};
            b = Due.bytes(s.substring(0, from) + other[upTo(other.length - 1)] + s.substring(to));
        }
        return b.length > 1600 ? Arrays.copyOf(b, 1600) : b;
    }

    private long call(Object who, Method m, Object[] with) {
        try {
            Method its = who.getClass().getDeclaredMethod(m.getName(), m.getParameterTypes());
            its.setAccessible(true);
            return ((Number) its.invoke(who, with)).longValue();
        } catch (ReflectiveOperationException e) {
            throw new IllegalStateException(m.getName() + Arrays.toString(with) + " on " + text, e);
        }
    }

    private void both(String name, Object... with) {
        for (Method m : methods) {
            if (m.getName().equals(name)) {
                both(m, with);
            }
        }
    }

    private void both(Method m, Object[] with) {
        calls++;
        due.is(m.getName() + Arrays.toString(with) + " on [" + text + "]", call(x, m, with), call(plain, m, with));
    }

    private void tell(byte[] b) {
        text = new String(b, java.nio.charset.StandardCharsets.ISO_8859_1);
        both("end", 0);
        for (int[] f : Due.feeds(b)) {
            both("feed", f[0], f[1], f[2], f[3], f[4]);
        }
        both("end", b.length);
        both("works");
        both("fault", 0);
        both("fault", 1);
        both("count", 8);
    }

    private int anInt(String name, int place) {
        if (upTo(11) == 0) {
            return EDGES[upTo(EDGES.length - 1)];
        }
        int pipes = Math.max(1, plain.w.pipes.size());
        int hours = Math.max(1, plain.w.press.size());
        int rooms = Math.max(1, plain.w.rooms.size());
        boolean isSlot = place == 0 && (name.equals("judge") || name.equals("other") || name.equals("lever") || name.equals("row") || name.equals("write") || name.equals("paste"));
        if (isSlot || name.equals("paste") && place == 2) {
            return upTo(3);
        }
        if (name.equals("row")) {
            return place == 1 ? upTo(3) : upTo(20);
        }
        if (name.equals("write") || name.equals("paste")) {
            return upTo(10);
        }
        switch (name) {
            case "who":
                return place == 0 ? upTo(4) : upTo(60);
            case "held":
                return upTo(65535);
            case "rules":
                return upTo(16);
            case "next":
                return place == 1 ? upTo(2) : upTo(1) == 0 ? upTo(pipes) : 100 + upTo(Math.max(1, plain.w.pots.size()));
            case "widen":
                return place == 0 ? upTo(pipes) : upTo(41);
            case "under":
                return place == 0 ? upTo(pipes - 1) : upTo(1) == 0 ? upTo(20) - 10 : upTo(1998) - 999;
            case "need":
            case "load":
                return place == 0 ? upTo(pipes) : upTo(999);
            case "trial":
                return upTo(999);
            case "moved":
                return place == 0 ? upTo(pipes - 1) : place == 1 ? upTo(hours - 1) : place == 2 ? upTo(rooms - 1) : upTo(1499) - 500;
            case "safest":
                return place == 0 ? upTo(pipes - 1) : place == 1 ? upTo(hours - 1) : upTo(rooms - 1);
            case "reach":
            case "lights":
            case "taken":
            case "lives":
            case "when":
            case "risk":
            case "wear":
                return place == 0 ? upTo(pipes - 1) : place == 1 ? upTo(hours - 1) : upTo(61);
            case "press":
                return upTo(hours);
            case "asked":
                return place == 0 ? upTo(Math.max(1, plain.w.changes.size())) : upTo(4);
            case "bend":
            case "pipe":
                return place == 0 ? upTo(pipes - 1) : upTo(name.equals("bend") ? 4 : 8);
            case "lever":
                return upTo(pipes - 1);
            case "bows":
            case "goes":
            case "why":
            case "stay":
            case "cap":
            case "prop":
                return upTo(pipes - 1);
            case "height":
            case "bursts":
                return upTo(Math.max(1, plain.w.pots.size()) - 1);
            case "staying":
                return upTo(Math.max(1, plain.w.persons.size()) - 1);
            case "keep":
            case "back":
                return upTo(3);
            case "first":
                return upTo(2);
            default:
                return upTo(12);
        }
    }

    /** Puts another way to a PIPE's second POT into a SLOT, so that lever() has something to find. */
    private void wayRound() {
        if (plain.w.pipes.isEmpty()) {
            return;
        }
        int k = upTo(plain.w.pipes.size() - 1);
        Plain.Pipe p = plain.w.pipes.get(k);
        List<int[]> all = moves(100 * (p.to - p.from), plain.w.height(p.from) - plain.w.height(p.to));
        int slot = upTo(3);
        both("row", slot, 1 + upTo(2), 2 * all.size() + upTo(1));
        for (int i = 0; i < all.size(); i++) {
            both("write", slot, 2 * i, (long) all.get(i)[0]);
            both("write", slot, 2 * i + 1, (long) all.get(i)[1]);
        }
        both("lever", slot, k);
    }

    private void hoursRow() {
        int slot = upTo(3);
        int n = upTo(20);
        both("row", slot, upTo(3), n);
        for (int i = 0; i < n; i++) {
            long p = i < plain.w.press.size() && upTo(9) > 0 ? plain.w.press.get(i) : random.nextInt(4000) - 1000;
            both("write", slot, i, p);
        }
        both("judge", slot);
        both("other", slot, upTo(Math.max(1, plain.w.pipes.size()) - 1));
    }

    private void someCall() {
        Method m = methods.get(upTo(methods.size() - 1));
        String name = m.getName();
        boolean dear = name.equals("rules") || name.equals("show") || name.equals("stay") || name.equals("cap") || name.equals("trial");
        if (dear && upTo(slow ? 20 : 2) > 0 || name.equals("works") || name.equals("feed") || name.equals("end")) {
            return;
        }
        Class<?>[] types = m.getParameterTypes();
        Object[] with = new Object[types.length];
        for (int i = 0; i < with.length; i++) {
            with[i] = types[i] == boolean.class ? (Object) random.nextBoolean()
                : types[i] == long.class ? (Object) (random.nextLong() >> upTo(63)) : (Object) anInt(name, i);
        }
        both(m, with);
    }

    private void oneRun(int number) {
        slow = number % 10 == 0;
        x = new BellowsRow();
        plain = new Plain();
        calls = 0;
        while (calls < 400) {
            int what = calls == 0 ? 0 : upTo(60);
            if (what == 0 && calls < 300) {
                tell(calls > 0 && upTo(3) == 0 ? spoilt(works()) : Due.bytes(works()));
            } else if (what == 1) {
                wayRound();
            } else if (what == 2) {
                hoursRow();
            } else {
                someCall();
            }
        }
    }

    private void spoiltTexts(int many) {
        for (int i = 0; i < many; i++) {
            x = new BellowsRow();
            plain = new Plain();
            tell(spoilt(works()));
            tell(spoilt(works()));
        }
    }

    public static void main(String[] args) {
        int runs = args.length > 1 ? Integer.parseInt(args[1]) : 300;
        AlikeTest t = new AlikeTest(args.length > 2 ? Long.parseLong(args[2]) : 20261118L);
        for (int i = 0; i < runs; i++) {
            t.oneRun(i);
        }
        t.slow = false;
        t.spoiltTexts(runs * 5);
        t.due.end();
    }
}
