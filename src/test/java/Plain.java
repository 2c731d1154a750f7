import java.math.BigInteger;
import java.util.ArrayList;
import java.util.Arrays;
import java.util.List;

/**
 * A slow model of the document with the same calls as BellowsRow: every HOUR is written out, and
 * what the document asks as "the least" or "the most" is found by trying all.
 */
final class Plain {
    static final int NOTHING = -2000000000;

    static final class Fault extends RuntimeException {
        private static final long serialVersionUID = 1L;
        final int what;
        final int place;

        Fault(int what, int place) {
            this.what = what;
            this.place = place;
        }
    }

    /** kind: w a word, n a number, s the sign, x none, e the end. */
    static final class Token {
        char kind;
        String text;
        int place;
    }

    static final class Pipe {
        int from;
        int to;
        int bore;
        int bellows;
        int stay;
        int life;
        boolean prop;
        List<int[]> moves = new ArrayList<>();

        /** Each BEND's x, y, along, across. */
        List<int[]> bends() {
            List<int[]> all = new ArrayList<>();
            int x = 0;
            int y = 0;
            for (int i = 0; i + 1 < moves.size(); i++) {
                int by = moves.get(i)[0];
                int on = moves.get(i + 1)[0];
                x += by == 0 ? moves.get(i)[1] : 0;
                y += by == 1 ? moves.get(i)[1] : by == 2 ? -moves.get(i)[1] : 0;
                if (by == on) {
                    continue;
                }
                int along = 0;
                int across = 0;
                if (by == 0) along += 1;
                if (on == 0) along -= 1;
                if (by == 1) across += 1;
                if (by == 2) across -= 1;
                if (on == 1) across -= 1;
                if (on == 2) across += 1;
                all.add(new int[] {x, y, along, across});
            }
            return all;
        }

        int lever() {
            int sum = 0;
            for (int[] b : bends()) {
                sum += b[0] * b[3] - b[1] * b[2];
            }
            return sum < 0 ? -sum : sum;
        }

        int length() {
            int sum = 0;
            for (int[] m : moves) {
                sum += m[1];
            }
            return sum;
        }

        int endX() {
            return moves.stream().mapToInt(m -> m[0] == 0 ? m[1] : 0).sum();
        }

        int endY() {
            return moves.stream().mapToInt(m -> m[0] == 1 ? m[1] : m[0] == 2 ? -m[1] : 0).sum();
        }

        Pipe copy() {
            Pipe p = new Pipe();
            p.from = from;
            p.to = to;
            p.bore = bore;
            p.bellows = bellows;
            p.stay = stay;
            p.life = life;
            p.prop = prop;
            p.moves = moves;
            return p;
        }

        BigInteger need(int press) {
            BigInteger push = BigInteger.valueOf(press).multiply(BigInteger.valueOf((long) bore * bore * lever()));
            return prop ? push : push.add(BigInteger.valueOf(100L * length() * bore));
        }

        int load(int press) {
            BigInteger need = need(press);
            long bear = 100L * (bellows + stay);
            if (bear == 0) {
                return need.signum() == 0 ? 0 : 10000;
            }
            return need.multiply(BigInteger.valueOf(100)).divide(BigInteger.valueOf(bear)).min(BigInteger.valueOf(10000)).intValue();
        }

        /** The LOAD at each PRESS, so that a walk need not work it out again. */
        int[] loads() {
            int[] all = new int[1000];
            for (int p = 0; p < 1000; p++) {
                all[p] = load(p);
            }
            return all;
        }

        /** HOUR and why (-1, -1: never). */
        int[] goes(int[] press) {
            int[] loads = loads();
            int wear = 0;
            for (int h = 0; h < press.length; h++) {
                int l = loads[press[h]];
                if (press[h] != (h == 0 ? 0 : press[h - 1]) && l > 49) {
                    wear += l - 49;
                }
                if (l > 100) {
                    return new int[] {h, 0};
                }
                if (wear >= life) {
                    return new int[] {h, 1};
                }
            }
            return new int[] {-1, -1};
        }
    }

    static final class Works {
        int lines;
        List<int[]> pots = new ArrayList<>();
        List<Pipe> pipes = new ArrayList<>();
        List<Integer> press = new ArrayList<>();
        int wind = -1;
        int way = 0;
        /** x, y, day, night, flame. */
        List<int[]> rooms = new ArrayList<>();
        /** SUBJECTS, away from, to. */
        List<int[]> persons = new ArrayList<>();
        boolean[][] asks = new boolean[4][4];
        /** KIND, DAY, SUBJECTS. */
        List<int[]> changes = new ArrayList<>();

        int height(int pot) {
            int h = 0;
            for (int i = 0; i <= pot; i++) {
                h -= pots.get(i)[0];
            }
            return h;
        }

        int[] hours() {
            return press.stream().mapToInt(p -> p).toArray();
        }
    }

    byte[] tape = new byte[0];
    Works w = new Works();
    int faultWhat = 0;
    int faultPlace = -1;
    Works[] images = new Works[3];
    long[][] slots = new long[4][];
    int[] widths = new int[4];

    // reading

    private List<Token> tokens;
    private int at;

    private static List<Token> split(byte[] t) {
        List<Token> all = new ArrayList<>();
        int i = 0;
        while (i < t.length) {
            if (t[i] == 32 || t[i] == 10) {
                i++;
                continue;
            }
            Token k = new Token();
            k.place = i;
            k.text = "";
            boolean word = Character.toString(t[i] & 255).matches("[a-z]");
            boolean number = Character.toString(t[i] & 255).matches("[0-9]");
            k.kind = word ? 'w' : number ? 'n' : t[i] == ';' ? 's' : 'x';
            do {
                k.text += (char) (t[i] & 255);
                i++;
            } while (i < t.length && (word && Character.toString(t[i] & 255).matches("[a-z]")
                || number && Character.toString(t[i] & 255).matches("[0-9]")));
            all.add(k);
        }
        Token end = new Token();
        end.kind = 'e';
        end.text = "";
        end.place = t.length;
        all.add(end);
        return all;
    }

    private Token look() {
        return tokens.get(at);
    }

    private Fault bad(int what) {
        return new Fault(what, look().place);
    }

    private boolean may(String word) {
        if (look().kind == 'w' && look().text.equals(word)) {
            at++;
            return true;
        }
        return false;
    }

    private void must(String word) {
        if (!may(word)) {
            throw bad(1);
        }
    }

    private int number(int low, int high) {
        if (look().kind != 'n') {
            throw bad(1);
        }
        BigInteger v = new BigInteger(look().text);
        if (v.compareTo(BigInteger.valueOf(low)) < 0 || v.compareTo(BigInteger.valueOf(high)) > 0) {
            throw bad(2);
        }
        at++;
        return v.intValue();
    }

    private int oneOf(String words) {
        int i = look().kind == 'w' ? Arrays.asList(words.split(" ")).indexOf(look().text) : -1;
        if (i >= 0) {
            at++;
        }
        return i;
    }

    private int mustOneOf(String words) {
        int i = oneOf(words);
        if (i < 0) {
            throw bad(1);
        }
        return i;
    }

    private int subjects() {
        int set = 1 << mustOneOf("draw push metal gas");
        for (int s = oneOf("draw push metal gas"); s >= 0; s = oneOf("draw push metal gas")) {
            set |= 1 << s;
        }
        return set;
    }

    private Works read() {
        Works n = new Works();
        tokens = split(tape);
        at = 0;
        while (look().kind != 'e') {
            Fault first = bad(3);
            Fault twice = bad(2);
            String word = look().kind == 'w' ? look().text : "";
            int before = at;
            mustOneOf("pot pipe run swing wind room person rule change");
            if (word.equals("wind") && n.wind >= 0) {
                throw twice;
            }
            boolean full = word.equals("pot") && n.pots.size() == 8 || word.equals("pipe") && n.pipes.size() == 12
                || word.equals("room") && n.rooms.size() == 12 || word.equals("person") && n.persons.size() == 12
                || word.equals("change") && n.changes.size() == 20 || n.lines == 60;
            if (full) {
                throw first;
            }
            at = before + 1;
            line(n, word);
            if (look().kind != 's') {
                throw bad(1);
            }
            at++;
            n.lines++;
        }
        return n;
    }

    private void line(Works n, String word) {
        if (word.equals("pot")) {
            must("step");
            int step = number(0, 99);
            must("holds");
            n.pots.add(new int[] {step, number(0, 999)});
        } else if (word.equals("pipe")) {
            pipeLine(n);
        } else if (word.equals("run")) {
            int many = number(1, Math.min(1000, 2000 - n.press.size()));
            must("at");
            int p = number(0, 999);
            for (int i = 0; i < many; i++) {
                n.press.add(p);
            }
        } else if (word.equals("swing")) {
            int a = number(0, 999);
            must("and");
            int b = number(0, 999);
            must("for");
            int many = number(1, Math.min(1000, 2000 - n.press.size()));
            for (int i = 0; i < many; i++) {
                n.press.add(i % 2 == 0 ? a : b);
            }
        } else if (word.equals("wind")) {
            n.way = mustOneOf("left right up down");
            n.wind = number(0, 50);
        } else if (word.equals("room")) {
            must("at");
            int x = number(0, 999);
            int y = number(0, 500);
            must("day");
            int day = number(0, 999);
            must("night");
            int night = number(0, 999);
            n.rooms.add(new int[] {x, y, day, night, may("flame") ? 1 : 0});
        } else if (word.equals("person")) {
            must("knows");
            int[] p = {subjects(), 2000, -2000};
            if (may("away")) {
                p[1] = number(0, 999);
                must("to");
                p[2] = number(p[1], 999);
            }
            n.persons.add(p);
        } else if (word.equals("rule")) {
            int kind = mustOneOf("pot pipe prop press");
            must("asks");
            int set = subjects();
            for (int s = 0; s < 4; s++) {
                n.asks[kind][s] |= (set >> s & 1) == 1;
            }
        } else {
            int kind = mustOneOf("pot pipe prop press");
            must("day");
            int day = number(0, 999);
            must("needs");
            n.changes.add(new int[] {kind, day, subjects()});
        }
    }

    private void pipeLine(Works n) {
        Pipe p = new Pipe();
        p.from = number(0, n.pots.size() - 1);
        must("to");
        p.to = number(p.from + 1, n.pots.size() - 1);
        must("bore");
        p.bore = number(1, 40);
        must("by");
        Fault place = bad(3);
        int way = mustOneOf("right up down");
        while (way >= 0) {
            if (p.moves.size() == 8) {
                throw place;
            }
            p.moves.add(new int[] {way, number(1, 900)});
            place = bad(3);
            way = oneOf("right up down");
        }
        Fault astray = bad(2);
        must("bellows");
        if (p.endX() != 100 * (p.to - p.from) || p.endY() != n.height(p.to) - n.height(p.from)) {
            throw astray;
        }
        p.bellows = number(0, 30000);
        must("life");
        p.life = number(1, 9999);
        p.prop = may("prop");
        p.stay = may("stay") ? number(0, 30000) : 0;
        n.pipes.add(p);
    }

    // the calls

    public int feed(int a, int b, int c, int d, int e) {
        if (tape.length + 20 > 1600) {
            return -1;
        }
        int[] all = {a, b, c, d, e};
        int n = tape.length;
        tape = Arrays.copyOf(tape, n + 20);
        for (int i = 0; i < 20; i++) {
            tape[n + i] = (byte) (all[i / 4] >>> 24 - 8 * (i % 4));
        }
        return tape.length;
    }

    public int end(int n) {
        if (n < 0 || n > tape.length) {
            return -1;
        }
        tape = Arrays.copyOf(tape, n);
        return n;
    }

    public int works() {
        faultWhat = 0;
        faultPlace = -1;
        try {
            w = read();
            tape = new byte[0];
        } catch (Fault f) {
            faultWhat = f.what;
            faultPlace = f.place;
        }
        return faultWhat == 0 ? w.lines : -4;
    }

    public int fault(int what) {
        return what == 0 ? faultWhat : what == 1 ? faultPlace : -1;
    }

    private static boolean in(int v, int low, int high) {
        return v >= low && v <= high;
    }

    private boolean isPipe(int k) {
        return in(k, 0, w.pipes.size() - 1);
    }

    private boolean isPot(int k) {
        return in(k, 0, w.pots.size() - 1);
    }

    private boolean isHour(int h) {
        return in(h, 0, w.press.size() - 1);
    }

    public int height(int pot) {
        return isPot(pot) ? w.height(pot) : NOTHING;
    }

    public int pipe(int k, int what) {
        if (!isPipe(k) || !in(what, 0, 7)) {
            return NOTHING;
        }
        Pipe p = w.pipes.get(k);
        int between = p.to == p.from + 1 ? -1 : p.from + 1;
        return new int[] {p.from, p.to, p.bends().size(), p.length(), p.length() * p.bore, p.lever(), between, p.bellows + p.stay}[what];
    }

    public int bend(int k, int i, int what) {
        if (!isPipe(k) || !in(i, 0, w.pipes.get(k).bends().size() - 1) || !in(what, 0, 3)) {
            return NOTHING;
        }
        return w.pipes.get(k).bends().get(i)[what];
    }

    public long need(int k, int press) {
        return isPipe(k) && in(press, 0, 999) ? w.pipes.get(k).need(press).longValueExact() : -2;
    }

    public int load(int k, int press) {
        return isPipe(k) && in(press, 0, 999) ? w.pipes.get(k).load(press) : -2;
    }

    public int bows(int k) {
        if (!isPipe(k)) {
            return -2;
        }
        for (int p = 0; p < 1000; p++) {
            if (w.pipes.get(k).load(p) > 100) {
                return p;
            }
        }
        return -1;
    }

    public int press(int hour) {
        return isHour(hour) ? w.press.get(hour) : -2;
    }

    public int wear(int k, int hour) {
        if (!isPipe(k) || !isHour(hour)) {
            return -2;
        }
        int[] loads = w.pipes.get(k).loads();
        int wear = 0;
        for (int h = 0; h <= hour; h++) {
            int ahead = h == 0 ? 0 : w.press.get(h - 1);
            int p = w.press.get(h);
            wear += p != ahead && loads[p] > 49 ? loads[p] - 49 : 0;
        }
        return wear;
    }

    public int goes(int k) {
        return isPipe(k) ? w.pipes.get(k).goes(w.hours())[0] : -2;
    }

    public int why(int k) {
        return isPipe(k) ? w.pipes.get(k).goes(w.hours())[1] : -2;
    }

    public int bursts(int pot) {
        if (!isPot(pot)) {
            return -2;
        }
        for (int h = 0; h < w.press.size(); h++) {
            if (w.press.get(h) > w.pots.get(pot)[1]) {
                return h;
            }
        }
        return -1;
    }

    public int first(int what) {
        return next2(-1, what);
    }

    public int next(int piece, int what) {
        return isPipe(piece) || piece >= 100 && isPot(piece - 100) ? next2(piece, what) : -2;
    }

    private int next2(int piece, int what) {
        int[] goes = new int[108];
        Arrays.fill(goes, -1);
        for (int k = 0; k < w.pipes.size(); k++) {
            goes[k] = goes(k);
        }
        for (int k = 0; k < w.pots.size(); k++) {
            goes[100 + k] = bursts(k);
        }
        for (int h = 0; h < w.press.size(); h++) {
            for (int i = 0; i < goes.length; i++) {
                if (goes[i] == h && i != piece) {
                    return what == 0 ? i : what == 1 ? h : -1;
                }
            }
        }
        return -1;
    }

    public int under(int k, int more) {
        if (!isPipe(k) || !in(more, -999, 999)) {
            return -2;
        }
        return w.pipes.get(k).goes(w.press.stream().mapToInt(p -> Math.min(999, Math.max(0, p + more))).toArray())[0];
    }

    public int stay(int k) {
        if (!isPipe(k)) {
            return -2;
        }
        Pipe p = w.pipes.get(k).copy();
        int was = p.stay;
        int[] hours = w.hours();
        boolean[] known = new boolean[1000];
        int most = 0;
        for (int h : hours) {
            known[h] = true;
            most = Math.max(most, h);
        }
        long[] needs = new long[1000];
        for (int h = 0; h < 1000; h++) {
            needs[h] = known[h] ? p.need(h).longValueExact() : 0;
        }
        for (int more = 0; more <= 30000; more++) {
            p.stay = was + more;
            // A quick no, so that the slow walk is left to the few that may do.
            long bear = p.bellows + p.stay;
            if (hours.length > 0 && (bear == 0 ? needs[most] > 0 : needs[most] / bear > 100)) {
                continue;
            }
            if (p.goes(hours)[0] == -1) {
                return more;
            }
        }
        return -1;
    }

    public int cap(int k) {
        if (!isPipe(k)) {
            return -2;
        }
        for (int c = 999; c >= 0; c--) {
            int most = c;
            if (w.pipes.get(k).goes(w.press.stream().mapToInt(p -> Math.min(p, most)).toArray())[0] == -1) {
                return c;
            }
        }
        return -1;
    }

    public int prop(int k, boolean is) {
        if (!isPipe(k)) {
            return -2;
        }
        Pipe p = w.pipes.get(k).copy();
        p.prop = is;
        return p.goes(w.hours())[0];
    }

    public int widen(int k, int bore) {
        if (!isPipe(k) || !in(bore, 1, 40)) {
            return -2;
        }
        Pipe p = w.pipes.get(k).copy();
        p.bore = bore;
        return p.goes(w.hours())[0];
    }

    public int lever(int slot, int k) {
        if (!in(slot, 0, 3) || !isPipe(k)) {
            return -2;
        }
        if (slots[slot] == null) {
            return -6;
        }
        Pipe p = w.pipes.get(k).copy();
        p.moves = new ArrayList<>();
        for (int i = 0; i + 1 < slots[slot].length; i += 2) {
            long way = slots[slot][i];
            long far = slots[slot][i + 1];
            if (way < 0 || way > 2 || far < 1 || far > 900) {
                return -2;
            }
            p.moves.add(new int[] {(int) way, (int) far});
        }
        if (p.moves.isEmpty() || p.moves.size() > 8) {
            return -2;
        }
        boolean comes = p.endX() == 100 * (p.to - p.from) && p.endY() == w.height(p.to) - w.height(p.from);
        return comes ? p.lever() : -5;
    }

    public int trial(int press) {
        if (!in(press, 0, 999)) {
            return -2;
        }
        int n = 0;
        for (int k = 0; k < w.pipes.size(); k++) {
            boolean bows = false;
            for (int p = 0; p <= press; p++) {
                bows |= w.pipes.get(k).load(p) > 100;
            }
            n += bows && goes(k) != -1 ? 1 : 0;
        }
        return n;
    }

    public int show() {
        int most = trial(999);
        for (int p = 0; p < 1000; p++) {
            if (trial(p) == most) {
                return p;
            }
        }
        return 0;
    }

    public int reach(int k, int hour, int minutes) {
        if (!isPipe(k) || !isHour(hour) || !in(minutes, 1, 60)) {
            return -2;
        }
        int v = w.press.get(hour) * w.pipes.get(k).bore * minutes;
        int r = (int) Math.sqrt(v) + 2;
        while (r * r > v) {
            r--;
        }
        return r;
    }

    private int away(int k, int m, int[] room) {
        int x = 50 * (w.pipes.get(k).from + w.pipes.get(k).to);
        int y = 0;
        int far = m * Math.max(0, w.wind);
        x += w.way == 0 ? -far : w.way == 1 ? far : 0;
        y += w.way == 2 ? far : w.way == 3 ? -far : 0;
        return Math.abs(x - room[0]) + Math.abs(y - room[1]);
    }

    public int lights(int k, int hour) {
        if (!isPipe(k) || !isHour(hour)) {
            return -2;
        }
        for (int m = 1; m <= 60; m++) {
            for (int[] room : w.rooms) {
                if (room[4] == 1 && away(k, m, room) <= reach(k, hour, m)) {
                    return m;
                }
            }
        }
        return -1;
    }

    public int taken(int k, int hour) {
        int m = lights(k, hour);
        if (m == -2) {
            return -2;
        }
        int set = 0;
        for (int i = 0; i < w.rooms.size() && m != -1; i++) {
            set |= away(k, m, w.rooms.get(i)) <= 2 * reach(k, hour, m) ? 1 << i : 0;
        }
        return set;
    }

    public int lives(int k, int hour) {
        int set = taken(k, hour);
        if (set == -2) {
            return -2;
        }
        int day = hour / 24 % 7;
        int of = hour % 24;
        int sum = 0;
        for (int i = 0; i < w.rooms.size(); i++) {
            if ((set >> i & 1) == 1) {
                sum += of >= 8 && of <= 16 && day < 5 ? w.rooms.get(i)[2] : w.rooms.get(i)[3];
            }
        }
        return sum;
    }

    public int when(int k, int hour, int n) {
        if (!isPipe(k) || !isHour(hour) || !in(n, 1, 200)) {
            return -2;
        }
        int best = hour;
        for (int h = hour; h < hour + n && isHour(h); h++) {
            best = lives(k, h) < lives(k, best) ? h : best;
        }
        return best;
    }

    public int moved(int k, int hour, int room, int x, int y) {
        if (!isPipe(k) || !isHour(hour) || !in(room, 0, w.rooms.size() - 1) || !in(x, -500, 999) || !in(y, -500, 999)) {
            return NOTHING;
        }
        return lives(k, hour) - livesIf(k, hour, room, x, y);
    }

    private int livesIf(int k, int hour, int room, int x, int y) {
        int[] was = w.rooms.get(room);
        w.rooms.set(room, new int[] {x, y, was[2], was[3], was[4]});
        int after = lives(k, hour);
        w.rooms.set(room, was);
        return after;
    }

    public int risk(int k, int hour, int n) {
        if (!isPipe(k) || !isHour(hour) || !in(n, 1, 200)) {
            return -2;
        }
        int sum = 0;
        for (int h = hour; h < hour + n && isHour(h); h++) {
            sum += lives(k, h);
        }
        return sum;
    }

    public int safest(int k, int hour, int room) {
        if (!isPipe(k) || !isHour(hour) || !in(room, 0, w.rooms.size() - 1)) {
            return -2;
        }
        int best = -1;
        int fewest = 0;
        for (int code = 0; code <= 900500; code += 100) {
            int x = code / 1000;
            int y = code % 1000;
            if (x % 100 != 0 || y > 500) {
                continue;
            }
            int n = livesIf(k, hour, room, x, y);
            if (best == -1 || n < fewest) {
                best = code;
                fewest = n;
            }
        }
        return best;
    }

    private boolean known(int subject, int day) {
        return who(subject, day) >= 0;
    }

    public int whole() {
        int set = 0;
        for (int c = 0; c < w.changes.size(); c++) {
            set |= asked(c, 0) == w.changes.get(c)[2] ? 1 << c : 0;
        }
        return set;
    }

    public int staying(int person) {
        if (!in(person, 0, w.persons.size() - 1)) {
            return -2;
        }
        int before = Integer.bitCount(whole());
        int[] was = w.persons.get(person);
        w.persons.set(person, new int[] {was[0], 2000, -2000});
        int after = Integer.bitCount(whole());
        w.persons.set(person, was);
        return after - before;
    }

    public int asked(int change, int what) {
        if (!in(change, 0, w.changes.size() - 1) || !in(what, 0, 3)) {
            return -2;
        }
        int[] c = w.changes.get(change);
        int set = 0;
        for (int s = 0; s < 4; s++) {
            boolean ruled = w.asks[c[0]][s];
            boolean known = known(s, c[1]);
            boolean[] is = {ruled && known, !ruled, ruled && !known, !known};
            set |= (c[2] >> s & 1) == 1 && is[what] ? 1 << s : 0;
        }
        return set;
    }

    public int who(int subject, int day) {
        if (!in(subject, 0, 3) || !in(day, 0, 999)) {
            return -2;
        }
        for (int p = 0; p < w.persons.size(); p++) {
            int[] q = w.persons.get(p);
            if ((q[0] >> subject & 1) == 1 && !in(day, q[1], q[2])) {
                return p;
            }
        }
        return -1;
    }

    public int rules(int n) {
        if (!in(n, 0, 16)) {
            return -2;
        }
        int[] best = null;
        for (int set = 0; set < 65536; set++) {
            if (Integer.bitCount(set) > n) {
                continue;
            }
            int[] key = {-held(set, false), held(set, true), Integer.bitCount(set), set};
            if (best == null || Arrays.compare(key, best) < 0) {
                best = key;
            }
        }
        return best[3];
    }

    public int held(int set, boolean vain) {
        if (!in(set, 0, 65535)) {
            return -2;
        }
        int n = 0;
        for (int[] c : w.changes) {
            boolean all = true;
            boolean more = false;
            for (int s = 0; s < 4; s++) {
                boolean asks = (set >> 4 * c[0] + s & 1) == 1;
                boolean needs = (c[2] >> s & 1) == 1;
                all &= asks || !needs;
                more |= asks && !needs;
            }
            n += (vain ? more : all) ? 1 : 0;
        }
        return n;
    }

    public int count(int what) {
        if (!in(what, 0, 9)) {
            return -1;
        }
        int asks = 0;
        int rows = 0;
        for (int i = 0; i < 16; i++) {
            asks |= w.asks[i / 4][i % 4] ? 1 << i : 0;
        }
        for (long[] s : slots) {
            rows += s == null ? 0 : 1;
        }
        return new int[] {w.pots.size(), w.pipes.size(), w.press.size(), w.rooms.size(), w.persons.size(),
            w.changes.size(), asks, w.lines, tape.length, rows}[what];
    }

    public int judge(int slot) {
        if (!in(slot, 0, 3)) {
            return -2;
        }
        if (slots[slot] == null) {
            return -6;
        }
        for (int i = 0; i < slots[slot].length; i++) {
            if (!isHour(i) || slots[slot][i] != w.press.get(i)) {
                return i;
            }
        }
        return slots[slot].length;
    }

    public int other(int slot, int k) {
        if (!in(slot, 0, 3) || !isPipe(k)) {
            return -2;
        }
        if (slots[slot] == null) {
            return -6;
        }
        return w.pipes.get(k).goes(Arrays.stream(slots[slot]).mapToInt(v -> (int) Math.max(0, Math.min(999, v))).toArray())[0];
    }

    public int keep(int k) {
        if (!in(k, 0, 2)) {
            return -2;
        }
        images[k] = w;
        return 0;
    }

    public int back(int k) {
        if (!in(k, 0, 2)) {
            return -2;
        }
        if (images[k] == null) {
            return -6;
        }
        w = images[k];
        return 0;
    }

    public int row(int slot, int width, int n) {
        if (!in(slot, 0, 3) || !in(width, 0, 3) || n > 60) {
            return -2;
        }
        if (n < 0) {
            return -3;
        }
        slots[slot] = new long[n];
        widths[slot] = width;
        return 0;
    }

    public int write(int slot, int i, long v) {
        if (!in(slot, 0, 3)) {
            return -2;
        }
        if (slots[slot] == null) {
            return -6;
        }
        if (!in(i, 0, slots[slot].length - 1)) {
            return -7;
        }
        int drop = 64 - (8 << widths[slot]);
        slots[slot][i] = v << drop >> drop;
        return 0;
    }

    public int paste(int slot, int i, int to, int k, int n) {
        if (!in(slot, 0, 3) || !in(to, 0, 3)) {
            return -2;
        }
        if (slots[slot] == null || slots[to] == null) {
            return -6;
        }
        if (widths[slot] != widths[to]) {
            return -8;
        }
        if (i < 0 || k < 0 || n < 0 || (long) i + n > slots[slot].length || (long) k + n > slots[to].length) {
            return -7;
        }
        long[] was = slots[slot].clone();
        for (int j = 0; j < n; j++) {
            slots[to][k + j] = was[i + j];
        }
        return 0;
    }
}
