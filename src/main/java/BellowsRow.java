/**
 * Pots a step lower each, pipes with bends on bellows put round them, the hours of press they bear,
 * the cloud of one that goes, and the changes and who was there to be asked. Words in capitals are
 * the terms of the document; each public method is one of its promises.
 */
public final class BellowsRow {
    public static final int NONE = -1;

    private static final int NOTHING = -2000000000;
    private static final int NO_SUCH = -2;
    private static final int BELOW_ZERO = -3;
    private static final int FAULTY = -4;
    private static final int COMES_NOT = -5;
    private static final int HAS_NOTHING = -6;
    private static final int BEYOND = -7;
    private static final int UNLIKE_WIDTHS = -8;

    private static final int MOST_PRESS = 999;
    private static final int MOST_BORE = 40;
    private static final int MOST_HOLDS = 30000;
    private static final int MOST_MOVES = 8;
    private static final int MOST_FAR = 900;
    private static final int MOST_LINES = 60;
    private static final int MOST_NUMBERS = 60;
    private static final int MOST_MINUTES = 60;
    private static final int MOST_DAY = 999;
    private static final int SPAN = 200;
    private static final int POT_APART = 100;
    private static final int POT_PIECE = 100;
    private static final int MORE_THAN_ANY = 2147483647;
    // Far more than it takes to halve any range here down to one number.
    private static final int MOST_HALVINGS = 40;

    private final Tape tape = new Tape();
    private final Works[] images = new Works[3];
    private final Row[] slots = {new Row(), new Row(), new Row(), new Row()};
    private final Strain strain = new Strain();
    private final Hours otherHours = new Hours();
    private final Path otherPath = new Path();
    private final Cloud cloud = new Cloud();
    private final int[] takenByPress = new int[MOST_PRESS + 1];
    private Works now = new Works();
    private int latestFault = 0;
    private int latestPlace = NONE;

    /** Promise 1. */
    public BellowsRow() {
    }

    /** Promise 2. */
    public int feed(int a, int b, int c, int d, int e) {
        if (!tape.hasSpace(20)) {
            return NONE;
        }
        tape.put(a);
        tape.put(b);
        tape.put(c);
        tape.put(d);
        tape.put(e);
        return tape.size;
    }

    /** Promise 3. */
    public int end(int n) {
        if (n < 0 || n > tape.size) {
            return NONE;
        }
        tape.size = n;
        return n;
    }

    /** Promise 4. */
    public int works() {
        Works read = new Parser(tape).readWorks();
        latestFault = tape.fault;
        latestPlace = tape.place;
        if (latestFault != 0) {
            return FAULTY;
        }
        tape.size = 0;
        now = read;
        return now.lines;
    }

    /** Promise 5. */
    public int fault(int what) {
        switch (what) {
            case 0:
                return latestFault;
            case 1:
                return latestPlace;
            default:
                return NONE;
        }
    }

    /** Promise 6. */
    public int height(int pot) {
        return now.hasPot(pot) ? now.heightOf(pot) : NOTHING;
    }

    /** Promise 7. */
    public int pipe(int k, int what) {
        Pipe p = now.pipeAt(k);
        if (p == null) {
            return NOTHING;
        }
        switch (what) {
            case 0:
                return p.from;
            case 1:
                return p.to;
            case 2:
                return p.path.bends;
            case 3:
                return p.path.length;
            case 4:
                return p.path.length * p.bore;
            case 5:
                return p.path.leverOfAll();
            case 6:
                return p.to - p.from > 1 ? p.from + 1 : NONE;
            case 7:
                return p.holds;
            default:
                return NOTHING;
        }
    }

    /** Promise 8. */
    public int bend(int k, int i, int what) {
        Pipe p = now.pipeAt(k);
        return p == null ? NOTHING : p.path.ofBend(i, what);
    }

    /** Promise 9. */
    public long need(int k, int press) {
        return isStrained(k) && isPress(press) ? strain.needAt(press) : NO_SUCH;
    }

    /** Promise 10. */
    public int load(int k, int press) {
        return isStrained(k) && isPress(press) ? strain.loadAt(press) : NO_SUCH;
    }

    /** Promise 11. */
    public int bows(int k) {
        return isStrained(k) ? strain.leastBowing() : NO_SUCH;
    }

    /** Promise 12. */
    public int press(int hour) {
        return now.hours.has(hour) ? now.hours.pressAt(hour) : NO_SUCH;
    }

    /** Promise 13. */
    public int wear(int k, int hour) {
        return now.hours.has(hour) && isStrained(k) ? strain.wearBehind(now.hours, hour) : NO_SUCH;
    }

    /** Promise 14. */
    public int goes(int k) {
        return isStrained(k) ? strain.goingHour(now.hours) : NO_SUCH;
    }

    /** Promise 15. */
    public int why(int k) {
        if (!isStrained(k)) {
            return NO_SUCH;
        }
        strain.goingHour(now.hours);
        return strain.cause;
    }

    /** Promise 16. */
    public int bursts(int pot) {
        return now.hasPot(pot) ? now.hours.firstAbove(now.holdsOf(pot)) : NO_SUCH;
    }

    /** Promise 17. */
    public int first(int what) {
        return firstWithout(NONE, what);
    }

    /** Promise 18. */
    public int next(int piece, int what) {
        boolean is = now.pipeAt(piece) != null || piece >= POT_PIECE && now.hasPot(piece - POT_PIECE);
        return is ? firstWithout(piece, what) : NO_SUCH;
    }

    /** Promise 19. */
    public int under(int k, int more) {
        if (more < -MOST_PRESS || more > MOST_PRESS || !isStrained(k)) {
            return NO_SUCH;
        }
        otherHours.takeShaped(now.hours, more, MOST_PRESS);
        return strain.goingHour(otherHours);
    }

    /** Promise 20. */
    public int stay(int k) {
        if (!isStrained(k)) {
            return NO_SUCH;
        }
        long holds = strain.holds;
        int low = 0;
        int high = MOST_HOLDS + 1;
        // More stay never makes a LOAD greater, so the stays that are enough are all those from one on.
        for (int halving = 0; halving < MOST_HALVINGS && low < high; halving++) {
            int middle = (low + high) / 2;
            strain.holds = holds + middle;
            if (middle > MOST_HOLDS || strain.goingHour(now.hours) == NONE) {
                high = middle;
            } else {
                low = middle + 1;
            }
        }
        return low > MOST_HOLDS ? NONE : low;
    }

    /** Promise 21. */
    public int cap(int k) {
        if (!isStrained(k)) {
            return NO_SUCH;
        }
        int low = NONE;
        int high = MOST_PRESS;
        // A lower cap makes no PRESS greater and no two unlike, so the caps that are enough are all those up to one.
        for (int halving = 0; halving < MOST_HALVINGS && low < high; halving++) {
            int middle = high - (high - low) / 2;
            otherHours.takeShaped(now.hours, 0, middle);
            if (strain.goingHour(otherHours) == NONE) {
                low = middle;
            } else {
                high = middle - 1;
            }
        }
        return low;
    }

    /** Promise 22. */
    public int prop(int k, boolean is) {
        Pipe p = now.pipeAt(k);
        if (p == null) {
            return NO_SUCH;
        }
        strain.take(p, p.bore, is);
        return strain.goingHour(now.hours);
    }

    /** Promise 23. */
    public int widen(int k, int bore) {
        Pipe p = now.pipeAt(k);
        if (p == null || bore < 1 || bore > MOST_BORE) {
            return NO_SUCH;
        }
        strain.take(p, bore, p.propped);
        return strain.goingHour(now.hours);
    }

    /** Promise 24. */
    public int lever(int slot, int k) {
        Row moves = slotAt(slot);
        Pipe p = now.pipeAt(k);
        if (moves == null || p == null) {
            return NO_SUCH;
        }
        if (!moves.is) {
            return HAS_NOTHING;
        }
        if (!otherPath.takeMoves(moves)) {
            return NO_SUCH;
        }
        return now.comes(otherPath, p.from, p.to) ? otherPath.leverOfAll() : COMES_NOT;
    }

    /** Promise 25. */
    public int trial(int press) {
        if (!isPress(press)) {
            return NO_SUCH;
        }
        int shown = 0;
        for (int k = 0; k < now.pipeCount; k++) {
            int least = shownFrom(k);
            if (least != NONE && least <= press) {
                shown++;
            }
        }
        return shown;
    }

    /** Promise 26. */
    public int show() {
        int least = 0;
        for (int k = 0; k < now.pipeCount; k++) {
            least = Math.max(least, shownFrom(k));
        }
        return least;
    }

    /** Promise 27. */
    public int reach(int k, int hour, int minutes) {
        if (minutes < 1 || minutes > MOST_MINUTES || !isClouded(k, hour)) {
            return NO_SUCH;
        }
        return cloud.reachAfter(minutes);
    }

    /** Promise 28. */
    public int lights(int k, int hour) {
        return isClouded(k, hour) ? cloud.lightingMinute() : NO_SUCH;
    }

    /** Promise 29. */
    public int taken(int k, int hour) {
        return isClouded(k, hour) ? cloud.takenRooms() : NO_SUCH;
    }

    /** Promise 30. */
    public int lives(int k, int hour) {
        return isClouded(k, hour) ? now.rooms.peopleIn(cloud.takenRooms(), hour) : NO_SUCH;
    }

    /** Promise 31. */
    public int when(int k, int hour, int n) {
        Pipe p = now.pipeAt(k);
        if (p == null || !now.hours.has(hour) || n < 1 || n > SPAN) {
            return NO_SUCH;
        }
        forgetTaken();
        int best = hour;
        int fewest = MORE_THAN_ANY;
        int past = Math.min(now.hours.total, hour + n);
        for (int h = hour; h < past; h++) {
            int people = peopleTaken(p, h);
            if (people < fewest) {
                fewest = people;
                best = h;
            }
        }
        return best;
    }

    /** Promise 32. */
    public int moved(int k, int hour, int room, int x, int y) {
        boolean isPlace = x >= -500 && x <= 999 && y >= -500 && y <= 999;
        if (!isPlace || !now.rooms.has(room) || !isClouded(k, hour)) {
            return NOTHING;
        }
        int before = now.rooms.peopleIn(cloud.takenRooms(), hour);
        cloud.move(room, x, y);
        return before - now.rooms.peopleIn(cloud.takenRooms(), hour);
    }

    /** Promise 33. */
    public int risk(int k, int hour, int n) {
        Pipe p = now.pipeAt(k);
        if (p == null || !now.hours.has(hour) || n < 1 || n > SPAN) {
            return NO_SUCH;
        }
        forgetTaken();
        int people = 0;
        int past = Math.min(now.hours.total, hour + n);
        for (int h = hour; h < past; h++) {
            people += peopleTaken(p, h);
        }
        return people;
    }

    /** Promise 34. */
    public int safest(int k, int hour, int room) {
        if (!now.rooms.has(room) || !isClouded(k, hour)) {
            return NO_SUCH;
        }
        int best = 0;
        int fewest = MORE_THAN_ANY;
        for (int x = 0; x <= 900; x += 100) {
            for (int y = 0; y <= 500; y += 100) {
                cloud.move(room, x, y);
                int people = now.rooms.peopleIn(cloud.takenRooms(), hour);
                if (people < fewest) {
                    fewest = people;
                    best = 1000 * x + y;
                }
            }
        }
        return best;
    }

    /** Promise 35. */
    public int whole() {
        return now.people.wholeChanges(NONE);
    }

    /** Promise 36. */
    public int staying(int person) {
        if (!now.people.hasPerson(person)) {
            return NO_SUCH;
        }
        int more = Integer.bitCount(now.people.wholeChanges(person));
        return more - Integer.bitCount(now.people.wholeChanges(NONE));
    }

    /** Promise 37. */
    public int asked(int change, int what) {
        return now.people.hasChange(change) ? now.people.ofChange(change, what) : NO_SUCH;
    }

    /** Promise 38. */
    public int who(int subject, int day) {
        if (subject < 0 || subject > 3 || day < 0 || day > MOST_DAY) {
            return NO_SUCH;
        }
        return now.people.firstKnowing(subject, day);
    }

    /** Promise 39. */
    public int rules(int n) {
        return n < 0 || n > 16 ? NO_SUCH : now.people.leastRules(n);
    }

    /** Promise 40. */
    public int held(int set, boolean vain) {
        if (set < 0 || set > 65535) {
            return NO_SUCH;
        }
        int changes = 0;
        for (int kind = 0; kind < 4; kind++) {
            int asks = set >> 4 * kind & 15;
            changes += vain ? now.people.askedInVain(kind, asks) : now.people.askedAll(kind, asks);
        }
        return changes;
    }

    /** Promise 41. */
    public int count(int what) {
        switch (what) {
            case 0:
                return now.potCount;
            case 1:
                return now.pipeCount;
            case 2:
                return now.hours.total;
            case 3:
                return now.rooms.count;
            case 4:
                return now.people.persons;
            case 5:
                return now.people.changes;
            case 6:
                return now.people.asks;
            case 7:
                return now.lines;
            case 8:
                return tape.size;
            case 9:
                return slotsWithRow();
            default:
                return NONE;
        }
    }

    /** Promise 42. */
    public int judge(int slot) {
        Row r = slotAt(slot);
        if (r == null) {
            return NO_SUCH;
        }
        if (!r.is) {
            return HAS_NOTHING;
        }
        int alike = 0;
        while (alike < r.size && now.hours.has(alike) && r.at(alike) == now.hours.pressAt(alike)) {
            alike++;
        }
        return alike;
    }

    /** Promise 43. */
    public int other(int slot, int k) {
        Row r = slotAt(slot);
        if (r == null || !isStrained(k)) {
            return NO_SUCH;
        }
        if (!r.is) {
            return HAS_NOTHING;
        }
        otherHours.takeRow(r);
        return strain.goingHour(otherHours);
    }

    /** Promise 44. */
    public int keep(int k) {
        if (k < 0 || k >= images.length) {
            return NO_SUCH;
        }
        // WORKS never change once they are read, so an IMAGE may share them.
        images[k] = now;
        return 0;
    }

    /** Promise 45. */
    public int back(int k) {
        if (k < 0 || k >= images.length) {
            return NO_SUCH;
        }
        Works image = images[k];
        if (image == null) {
            return HAS_NOTHING;
        }
        now = image;
        return 0;
    }

    /** Promise 46. */
    public int row(int slot, int width, int n) {
        Row r = slotAt(slot);
        if (r == null || width < 0 || width > 3 || n > MOST_NUMBERS) {
            return NO_SUCH;
        }
        if (n < 0) {
            return BELOW_ZERO;
        }
        r.begin(width, n);
        return 0;
    }

    /** Promise 47. */
    public int write(int slot, int i, long v) {
        Row r = slotAt(slot);
        if (r == null) {
            return NO_SUCH;
        }
        if (!r.is) {
            return HAS_NOTHING;
        }
        if (i < 0 || i >= r.size) {
            return BEYOND;
        }
        r.set(i, v);
        return 0;
    }

    /** Promise 48. */
    public int paste(int slot, int i, int to, int k, int n) {
        Row source = slotAt(slot);
        Row target = slotAt(to);
        if (source == null || target == null) {
            return NO_SUCH;
        }
        if (!source.is || !target.is) {
            return HAS_NOTHING;
        }
        if (source.width != target.width) {
            return UNLIKE_WIDTHS;
        }
        if (!source.hasSpan(i, n) || !target.hasSpan(k, n)) {
            return BEYOND;
        }
        System.arraycopy(source.numbers, i, target.numbers, k, n);
        return 0;
    }

    private static boolean isPress(int press) {
        return press >= 0 && press <= MOST_PRESS;
    }

    /** Whether there is such a PIPE; the strain is that PIPE's then, as it stands. */
    private boolean isStrained(int k) {
        Pipe p = now.pipeAt(k);
        if (p == null) {
            return false;
        }
        strain.take(p, p.bore, p.propped);
        return true;
    }

    /** Whether there are such a PIPE and HOUR; the cloud is that of both then. */
    private boolean isClouded(int k, int hour) {
        Pipe p = now.pipeAt(k);
        if (p == null || !now.hours.has(hour)) {
            return false;
        }
        cloud.take(now, p, now.hours.pressAt(hour));
        return true;
    }

    private Row slotAt(int slot) {
        return slot < 0 || slot >= slots.length ? null : slots[slot];
    }

    private int slotsWithRow() {
        int many = 0;
        for (Row r : slots) {
            if (r != null && r.is) {
                many++;
            }
        }
        return many;
    }

    private int firstWithout(int piece, int what) {
        int found = NONE;
        int least = NONE;
        for (int k = 0; k < now.pipeCount; k++) {
            int hour = k != piece && isStrained(k) ? strain.goingHour(now.hours) : NONE;
            if (hour != NONE && (least == NONE || hour < least)) {
                least = hour;
                found = k;
            }
        }
        for (int pot = 0; pot < now.potCount; pot++) {
            int hour = pot + POT_PIECE != piece ? now.hours.firstAbove(now.holdsOf(pot)) : NONE;
            if (hour != NONE && (least == NONE || hour < least)) {
                least = hour;
                found = pot + POT_PIECE;
            }
        }
        switch (what) {
            case 0:
                return found;
            case 1:
                return least;
            default:
                return NONE;
        }
    }

    /** The least PRESS of a TRIAL that shows a PIPE that goes; NONE: none does. */
    private int shownFrom(int k) {
        return isStrained(k) && strain.goingHour(now.hours) != NONE ? strain.leastBowing() : NONE;
    }

    private void forgetTaken() {
        for (int i = 0; i < takenByPress.length; i++) {
            takenByPress[i] = NONE;
        }
    }

    /** What a cloud takes hangs on the PRESS alone, so HOURS of one PRESS share what was found. */
    private int peopleTaken(Pipe p, int hour) {
        int press = now.hours.pressAt(hour);
        if (press < 0 || press >= takenByPress.length) {
            return 0;
        }
        if (takenByPress[press] == NONE) {
            cloud.take(now, p, press);
            takenByPress[press] = cloud.takenRooms();
        }
        return now.rooms.peopleIn(takenByPress[press], hour);
    }

    /** The TAPE, its TOKENS one at a time, and the first FAULT told of them. */
    private static final class Tape {
        static final int END = 0;
        static final int WORD = 1;
        static final int NUMBER = 2;
        static final int SIGN = 3;
        static final int OTHER = 4;
        // Above every bound, and ten times it still an int.
        static final int HUGE = 1000000;

        final byte[] bytes = new byte[1600];
        int size = 0;
        int kind = END;
        int fault = 0;
        int place = NONE;
        private int from = 0;
        private int past = 0;
        private int value = 0;

        boolean hasSpace(int n) {
            return size + n <= bytes.length;
        }

        void put(int number) {
            for (int shift = 24; shift >= 0 && size < bytes.length; shift -= 8) {
                bytes[size] = (byte) (number >> shift);
                size++;
            }
        }

        void begin() {
            past = 0;
            fault = 0;
            place = NONE;
            step();
        }

        /** Goes on to the next TOKEN. */
        void step() {
            int at = past;
            while (at < size && (bytes[at] == ' ' || bytes[at] == '\n')) {
                at++;
            }
            from = at;
            value = 0;
            while (at < size && bytes[at] >= 'a' && bytes[at] <= 'z') {
                at++;
            }
            past = at;
            if (at > from) {
                kind = WORD;
                return;
            }
            while (at < size && bytes[at] >= '0' && bytes[at] <= '9') {
                value = value < HUGE ? value * 10 + bytes[at] - '0' : value;
                at++;
            }
            past = at;
            if (at > from) {
                kind = NUMBER;
            } else if (at >= size) {
                kind = END;
            } else {
                kind = bytes[at] == ';' ? SIGN : OTHER;
                past = at + 1;
            }
        }

        /** The first FAULT stays: the TOKENS behind it are not looked at. */
        void fail(int what) {
            if (fault == 0) {
                fault = what;
                place = from;
            }
        }

        boolean goesOn() {
            return fault == 0 && kind != END;
        }

        boolean isAt(String word) {
            if (fault != 0 || kind != WORD || past - from != word.length()) {
                return false;
            }
            for (int i = 0; i < word.length() && from + i < size; i++) {
                if (bytes[from + i] != word.charAt(i)) {
                    return false;
                }
            }
            return true;
        }

        boolean passes(String word) {
            if (!isAt(word)) {
                return false;
            }
            step();
            return true;
        }

        void expect(String word) {
            if (!passes(word)) {
                fail(1);
            }
        }

        void expectSign() {
            if (fault == 0 && kind == SIGN) {
                step();
            } else {
                fail(1);
            }
        }

        /** The number that is due here; with a FAULT the least. */
        int expectNumber(int least, int most) {
            if (kind != NUMBER) {
                fail(1);
            } else if (value < least || value > most) {
                fail(2);
            }
            if (fault != 0) {
                return least;
            }
            int got = value;
            step();
            return got;
        }
    }

    /** Reads the TAPE's LINES into new WORKS. */
    private static final class Parser {
        private static final int POT = 0;
        private static final int PIPE = 1;
        private static final int RUN = 2;
        private static final int SWING = 3;
        private static final int WIND = 4;
        private static final int ROOM = 5;
        private static final int PERSON = 6;
        private static final int RULE = 7;
        private static final int CHANGE = 8;

        private final Tape tape;
        private final Works works = new Works();

        Parser(Tape tape) {
            this.tape = tape;
        }

        Works readWorks() {
            tape.begin();
            for (int line = 0; line <= MOST_LINES && tape.goesOn(); line++) {
                readLine(line);
            }
            return works;
        }

        private void readLine(int line) {
            int kind = kindOfLine();
            if (kind == NONE) {
                tape.fail(1);
            } else if (kind == WIND && works.windTold) {
                tape.fail(2);
            } else if (line >= MOST_LINES || isFull(kind)) {
                tape.fail(3);
            }
            if (tape.fault != 0) {
                return;
            }
            tape.step();
            switch (kind) {
                case POT:
                    readPot();
                    break;
                case PIPE:
                    readPipe();
                    break;
                case RUN:
                    readRun();
                    break;
                case SWING:
                    readSwing();
                    break;
                case WIND:
                    readWind();
                    break;
                case ROOM:
                    readRoom();
                    break;
                case PERSON:
                    readPerson();
                    break;
                case RULE:
                    readRule();
                    break;
                default:
                    readChange();
                    break;
            }
            tape.expectSign();
            works.lines++;
        }

        private int kindOfLine() {
            return tape.isAt("pot") ? POT
                : tape.isAt("pipe") ? PIPE
                : tape.isAt("run") ? RUN
                : tape.isAt("swing") ? SWING
                : tape.isAt("wind") ? WIND
                : tape.isAt("room") ? ROOM
                : tape.isAt("person") ? PERSON
                : tape.isAt("rule") ? RULE
                : tape.isAt("change") ? CHANGE : NONE;
        }

        private boolean isFull(int kind) {
            switch (kind) {
                case POT:
                    return works.potCount >= Works.MOST_POTS;
                case PIPE:
                    return works.pipeCount >= Works.MOST_PIPES;
                case ROOM:
                    return works.rooms.count >= Rooms.MOST;
                case PERSON:
                    return works.people.persons >= People.MOST_PERSONS;
                case CHANGE:
                    return works.people.changes >= People.MOST_CHANGES;
                default:
                    return false;
            }
        }

        private void readPot() {
            tape.expect("step");
            int step = tape.expectNumber(0, 99);
            tape.expect("holds");
            int holds = tape.expectNumber(0, MOST_PRESS);
            works.addPot(step, holds);
        }

        private void readPipe() {
            int from = tape.expectNumber(0, works.potCount - 1);
            tape.expect("to");
            int to = tape.expectNumber(from + 1, works.potCount - 1);
            tape.expect("bore");
            int bore = tape.expectNumber(1, MOST_BORE);
            tape.expect("by");
            Path path = new Path();
            readMoves(path);
            if (tape.isAt("bellows") && !works.comes(path, from, to)) {
                tape.fail(2);
            }
            tape.expect("bellows");
            int bellows = tape.expectNumber(0, MOST_HOLDS);
            tape.expect("life");
            int life = tape.expectNumber(1, 9999);
            boolean propped = tape.passes("prop");
            int stay = tape.passes("stay") ? tape.expectNumber(0, MOST_HOLDS) : 0;
            works.addPipe(new Pipe(from, to, bore, path, bellows + stay, life, propped));
        }

        private void readMoves(Path path) {
            for (int i = 0; i <= MOST_MOVES; i++) {
                int way = tape.isAt("right") ? Path.RIGHT
                    : tape.isAt("up") ? Path.UP
                    : tape.isAt("down") ? Path.DOWN : NONE;
                if (way == NONE) {
                    break;
                }
                if (i == MOST_MOVES) {
                    tape.fail(3);
                    return;
                }
                tape.step();
                path.add(way, tape.expectNumber(1, MOST_FAR));
            }
            if (path.moves == 0) {
                tape.fail(1);
            }
        }

        /** HOURS that can still come, so that one more is out of its bounds. */
        private int expectHours() {
            return tape.expectNumber(1, Math.min(1000, Hours.MOST - works.hours.total));
        }

        private void readRun() {
            int many = expectHours();
            tape.expect("at");
            int press = tape.expectNumber(0, MOST_PRESS);
            works.hours.add(many, press, press);
        }

        private void readSwing() {
            int even = tape.expectNumber(0, MOST_PRESS);
            tape.expect("and");
            int odd = tape.expectNumber(0, MOST_PRESS);
            tape.expect("for");
            works.hours.add(expectHours(), even, odd);
        }

        private void readWind() {
            int x = 0;
            int y = 0;
            if (tape.passes("left")) {
                x = -1;
            } else if (tape.passes("right")) {
                x = 1;
            } else if (tape.passes("up")) {
                y = 1;
            } else {
                tape.expect("down");
                y = -1;
            }
            int wind = tape.expectNumber(0, 50);
            works.windTold = true;
            works.windX = x * wind;
            works.windY = y * wind;
        }

        private void readRoom() {
            tape.expect("at");
            int x = tape.expectNumber(0, 999);
            int y = tape.expectNumber(0, 500);
            tape.expect("day");
            int day = tape.expectNumber(0, 999);
            tape.expect("night");
            int night = tape.expectNumber(0, 999);
            works.rooms.add(x, y, day, night, tape.passes("flame"));
        }

        private void readPerson() {
            tape.expect("knows");
            int knows = expectSubjects();
            // Without away the span is one that no DAY is in.
            int first = 1;
            int last = 0;
            if (tape.passes("away")) {
                first = tape.expectNumber(0, MOST_DAY);
                tape.expect("to");
                last = tape.expectNumber(first, MOST_DAY);
            }
            works.people.addPerson(knows, first, last);
        }

        private void readRule() {
            int kind = expectKind();
            tape.expect("asks");
            works.people.addRule(kind, expectSubjects());
        }

        private void readChange() {
            int kind = expectKind();
            tape.expect("day");
            int day = tape.expectNumber(0, MOST_DAY);
            tape.expect("needs");
            works.people.addChange(kind, day, expectSubjects());
        }

        private int expectKind() {
            if (tape.passes("pot")) {
                return 0;
            }
            if (tape.passes("pipe")) {
                return 1;
            }
            if (tape.passes("prop")) {
                return 2;
            }
            if (!tape.passes("press")) {
                tape.fail(1);
            }
            return 3;
        }

        private int expectSubjects() {
            int subjects = 0;
            // No TAPE has more TOKENS than bytes.
            for (int i = 0; i < tape.bytes.length; i++) {
                int subject = tape.passes("draw") ? 0
                    : tape.passes("push") ? 1
                    : tape.passes("metal") ? 2
                    : tape.passes("gas") ? 3 : NONE;
                if (subject == NONE) {
                    break;
                }
                subjects |= 1 << subject;
            }
            if (subjects == 0) {
                tape.fail(1);
            }
            return subjects;
        }
    }

    /** WORKS as a TAPE told them; nothing in them changes once they are read. */
    private static final class Works {
        static final int MOST_POTS = 8;
        static final int MOST_PIPES = 12;

        final Hours hours = new Hours();
        final Rooms rooms = new Rooms();
        final People people = new People();
        int lines = 0;
        int potCount = 0;
        int pipeCount = 0;
        boolean windTold = false;
        int windX = 0;
        int windY = 0;
        private final int[] heights = new int[MOST_POTS];
        private final int[] potHolds = new int[MOST_POTS];
        private final Pipe[] pipes = new Pipe[MOST_PIPES];

        void addPot(int step, int holds) {
            if (potCount < 0 || potCount >= MOST_POTS) {
                return;
            }
            heights[potCount] = heightOf(potCount - 1) - step;
            potHolds[potCount] = holds;
            potCount++;
        }

        void addPipe(Pipe p) {
            if (pipeCount >= 0 && pipeCount < MOST_PIPES) {
                pipes[pipeCount] = p;
                pipeCount++;
            }
        }

        boolean hasPot(int pot) {
            return pot >= 0 && pot < potCount;
        }

        int heightOf(int pot) {
            return pot >= 0 && pot < MOST_POTS ? heights[pot] : 0;
        }

        int holdsOf(int pot) {
            return pot >= 0 && pot < MOST_POTS ? potHolds[pot] : 0;
        }

        /** A PIPE, or null: there is none such. */
        Pipe pipeAt(int k) {
            return k >= 0 && k < pipeCount && k < MOST_PIPES ? pipes[k] : null;
        }

        boolean comes(Path path, int from, int to) {
            return path.x == POT_APART * (to - from) && path.y == heightOf(to) - heightOf(from);
        }
    }

    /** Where MOVES lead, and the BENDS on the way. */
    private static final class Path {
        static final int RIGHT = 0;
        static final int UP = 1;
        static final int DOWN = 2;
        private static final int MOST_BENDS = MOST_MOVES - 1;

        int moves = 0;
        int x = 0;
        int y = 0;
        int length = 0;
        int bends = 0;
        private int latest = NONE;
        private int turning = 0;
        private final int[] bendX = new int[MOST_BENDS];
        private final int[] bendY = new int[MOST_BENDS];
        private final int[] along = new int[MOST_BENDS];
        private final int[] across = new int[MOST_BENDS];

        private static int rightward(int way) {
            return way == RIGHT ? 1 : 0;
        }

        private static int upward(int way) {
            return way == UP ? 1 : way == DOWN ? -1 : 0;
        }

        void add(int way, int far) {
            if (moves > 0 && way != latest) {
                addBend(way);
            }
            x += rightward(way) * far;
            y += upward(way) * far;
            length += far;
            latest = way;
            moves++;
        }

        private void addBend(int way) {
            if (bends < 0 || bends >= MOST_BENDS) {
                return;
            }
            bendX[bends] = x;
            bendY[bends] = y;
            along[bends] = rightward(latest) - rightward(way);
            across[bends] = upward(latest) - upward(way);
            turning += x * across[bends] - y * along[bends];
            bends++;
        }

        int leverOfAll() {
            return Math.abs(turning);
        }

        int ofBend(int i, int what) {
            if (i < 0 || i >= bends || i >= MOST_BENDS) {
                return NOTHING;
            }
            switch (what) {
                case 0:
                    return bendX[i];
                case 1:
                    return bendY[i];
                case 2:
                    return along[i];
                case 3:
                    return across[i];
                default:
                    return NOTHING;
            }
        }

        /** Takes a row's MOVES in place of its own; false: they are none such. */
        boolean takeMoves(Row r) {
            moves = 0;
            x = 0;
            y = 0;
            length = 0;
            bends = 0;
            turning = 0;
            int many = r.size / 2;
            if (many < 1 || many > MOST_MOVES) {
                return false;
            }
            for (int i = 0; i < many; i++) {
                long way = r.at(2 * i);
                long far = r.at(2 * i + 1);
                if (way < RIGHT || way > DOWN || far < 1 || far > MOST_FAR) {
                    return false;
                }
                add((int) way, (int) far);
            }
            return true;
        }
    }

    /** A PIPE as it was told; what it HOLDS is bellows and stay together. */
    private static final class Pipe {
        final int from;
        final int to;
        final int bore;
        final Path path;
        final int holds;
        final int life;
        final boolean propped;

        Pipe(int from, int to, int bore, Path path, int holds, int life, boolean propped) {
            this.from = from;
            this.to = to;
            this.bore = bore;
            this.path = path;
            this.holds = holds;
            this.life = life;
            this.propped = propped;
        }
    }

    /** HOURS as spans in which two PRESSES take turns (or one, if they are alike). */
    private static final class Hours {
        static final int MOST = 2000;

        int total = 0;
        int spans = 0;
        private final int[] many = new int[MOST_LINES];
        private final int[] even = new int[MOST_LINES];
        private final int[] odd = new int[MOST_LINES];

        void add(int hours, int evenPress, int oddPress) {
            if (spans < 0 || spans >= MOST_LINES) {
                return;
            }
            many[spans] = hours;
            even[spans] = evenPress;
            odd[spans] = oddPress;
            spans++;
            total += hours;
        }

        private void clear() {
            spans = 0;
            total = 0;
        }

        /** Takes another's HOURS, each PRESS so much more, but at least 0 and at most so much. */
        void takeShaped(Hours source, int more, int most) {
            clear();
            for (int s = 0; s < source.spans; s++) {
                add(source.manyOf(s), shaped(source.evenOf(s), more, most), shaped(source.oddOf(s), more, most));
            }
        }

        private static int shaped(int press, int more, int most) {
            return Math.max(0, Math.min(most, press + more));
        }

        void takeRow(Row r) {
            clear();
            for (int i = 0; i < r.size; i++) {
                int press = (int) Math.max(0L, Math.min((long) MOST_PRESS, r.at(i)));
                add(1, press, press);
            }
        }

        int manyOf(int span) {
            return span >= 0 && span < MOST_LINES ? many[span] : 0;
        }

        int evenOf(int span) {
            return span >= 0 && span < MOST_LINES ? even[span] : 0;
        }

        int oddOf(int span) {
            return span >= 0 && span < MOST_LINES ? odd[span] : 0;
        }

        boolean has(int hour) {
            return hour >= 0 && hour < total;
        }

        int pressAt(int hour) {
            int left = hour;
            for (int s = 0; s < spans; s++) {
                if (left < manyOf(s)) {
                    return left % 2 == 0 ? evenOf(s) : oddOf(s);
                }
                left -= manyOf(s);
            }
            return 0;
        }

        /** The first HOUR with a PRESS above one; NONE: none has. */
        int firstAbove(int press) {
            int hour = 0;
            for (int s = 0; s < spans; s++) {
                if (evenOf(s) > press) {
                    return hour;
                }
                if (oddOf(s) > press && manyOf(s) > 1) {
                    return hour + 1;
                }
                hour += manyOf(s);
            }
            return NONE;
        }
    }

    /** What a PIPE, as it stands or would stand, bears in HOURS. */
    private static final class Strain {
        private static final int BOWING = 100;
        private static final int HARMLESS = 49;
        private static final int MOST_LOAD = 10000;

        long holds = 0;
        /** Of the latest goingHour: 0 by LOAD, 1 by WEAR, NONE. */
        int cause = NONE;
        private long pushOfOne = 0;
        private long weightNeed = 0;
        private int life = 1;
        private int worn = 0;

        void take(Pipe p, int bore, boolean propped) {
            pushOfOne = (long) bore * bore * p.path.leverOfAll();
            weightNeed = propped ? 0L : 100L * p.path.length * bore;
            holds = p.holds;
            life = p.life;
        }

        long needAt(int press) {
            return press * pushOfOne + weightNeed;
        }

        int loadAt(int press) {
            long need = needAt(press);
            if (holds <= 0) {
                return need == 0 ? 0 : MOST_LOAD;
            }
            // 100 times NEED through 100 times HOLDS
            return (int) Math.min((long) MOST_LOAD, need / holds);
        }

        /** The least PRESS at which it BOWS: a greater PRESS has no lower LOAD. */
        int leastBowing() {
            int low = 0;
            int high = MOST_PRESS + 1;
            for (int halving = 0; halving < MOST_HALVINGS && low < high; halving++) {
                int middle = (low + high) / 2;
                if (middle > MOST_PRESS || loadAt(middle) > BOWING) {
                    high = middle;
                } else {
                    low = middle + 1;
                }
            }
            return low > MOST_PRESS ? NONE : low;
        }

        int goingHour(Hours hours) {
            return walk(hours, hours.total, true);
        }

        int wearBehind(Hours hours, int hour) {
            walk(hours, hour + 1, false);
            return worn;
        }

        /** Wears through so many HOURS; answers that in which it goes, if it is let go. */
        private int walk(Hours hours, int past, boolean mayGo) {
            int hour = 0;
            int ahead = 0;
            worn = 0;
            cause = NONE;
            for (int s = 0; s < hours.spans; s++) {
                int evenLoad = loadAt(hours.evenOf(s));
                int oddLoad = loadAt(hours.oddOf(s));
                int many = Math.min(hours.manyOf(s), past - hour);
                for (int i = 0; i < many; i++) {
                    int press = i % 2 == 0 ? hours.evenOf(s) : hours.oddOf(s);
                    int load = i % 2 == 0 ? evenLoad : oddLoad;
                    if (press != ahead && load > HARMLESS) {
                        worn += load - HARMLESS;
                    }
                    if (mayGo && (load > BOWING || worn >= life)) {
                        cause = load > BOWING ? 0 : 1;
                        return hour;
                    }
                    ahead = press;
                    hour++;
                }
            }
            return NONE;
        }
    }

    /** ROOMS, and the PEOPLE in them. */
    private static final class Rooms {
        static final int MOST = 12;

        int count = 0;
        /** Those with a flame, as bits. */
        int flames = 0;
        private final int[] x = new int[MOST];
        private final int[] y = new int[MOST];
        private final int[] day = new int[MOST];
        private final int[] night = new int[MOST];

        void add(int roomX, int roomY, int byDay, int byNight, boolean flame) {
            if (count < 0 || count >= MOST) {
                return;
            }
            x[count] = roomX;
            y[count] = roomY;
            day[count] = byDay;
            night[count] = byNight;
            flames |= flame ? 1 << count : 0;
            count++;
        }

        boolean has(int room) {
            return room >= 0 && room < count;
        }

        int xOf(int room) {
            return room >= 0 && room < MOST ? x[room] : 0;
        }

        int yOf(int room) {
            return room >= 0 && room < MOST ? y[room] : 0;
        }

        int peopleIn(int rooms, int hour) {
            int ofDay = hour % 24;
            boolean isWork = ofDay >= 8 && ofDay <= 16 && hour / 24 % 7 < 5;
            int people = 0;
            for (int room = 0; room < count && room < MOST; room++) {
                if ((rooms >> room & 1) != 0) {
                    people += isWork ? day[room] : night[room];
                }
            }
            return people;
        }
    }

    /** The CLOUD of a PIPE that goes at a PRESS, a ROOM perhaps standing elsewhere. */
    private static final class Cloud {
        private int startX = 0;
        private int windX = 0;
        private int windY = 0;
        private Rooms rooms = null;
        private int movedRoom = NONE;
        private int movedX = 0;
        private int movedY = 0;
        private final int[] reaches = new int[MOST_MINUTES + 1];

        void take(Works works, Pipe p, int press) {
            startX = POT_APART * (p.from + p.to) / 2;
            windX = works.windX;
            windY = works.windY;
            rooms = works.rooms;
            movedRoom = NONE;
            for (int m = 1; m <= MOST_MINUTES; m++) {
                reaches[m] = root(press * p.bore * m);
            }
        }

        void move(int room, int x, int y) {
            movedRoom = room;
            movedX = x;
            movedY = y;
        }

        /** The greatest number whose square is not above v; v is below 2048 times 2048. */
        private static int root(int v) {
            int r = 0;
            for (int bit = 1024; bit > 0; bit >>= 1) {
                if ((r + bit) * (r + bit) <= v) {
                    r += bit;
                }
            }
            return r;
        }

        int reachAfter(int minutes) {
            return minutes >= 1 && minutes <= MOST_MINUTES ? reaches[minutes] : 0;
        }

        /** ROOMS so far or less away after some minutes, as bits. */
        private int roomsWithin(int far, int minutes) {
            if (rooms == null) {
                return 0;
            }
            int within = 0;
            for (int room = 0; room < rooms.count; room++) {
                int x = room == movedRoom ? movedX : rooms.xOf(room);
                int y = room == movedRoom ? movedY : rooms.yOf(room);
                int away = Math.abs(x - startX - minutes * windX) + Math.abs(y - minutes * windY);
                within |= away <= far ? 1 << room : 0;
            }
            return within;
        }

        int lightingMinute() {
            int flames = rooms == null ? 0 : rooms.flames;
            for (int m = 1; m <= MOST_MINUTES && flames != 0; m++) {
                if ((roomsWithin(reachAfter(m), m) & flames) != 0) {
                    return m;
                }
            }
            return NONE;
        }

        int takenRooms() {
            int m = lightingMinute();
            return m == NONE ? 0 : roomsWithin(2 * reachAfter(m), m);
        }
    }

    /** PERSONS, the RULES and the CHANGES. */
    private static final class People {
        static final int MOST_PERSONS = 12;
        static final int MOST_CHANGES = 20;
        private static final int MOST_ASKS = 16;
        // Above every cost, however many are summed.
        private static final long NO_WAY = 1L << 60;

        int persons = 0;
        int changes = 0;
        int asks = 0;
        private final int[] knows = new int[MOST_PERSONS];
        private final int[] awayFrom = new int[MOST_PERSONS];
        private final int[] awayTo = new int[MOST_PERSONS];
        private final int[] kinds = new int[MOST_CHANGES];
        private final int[] days = new int[MOST_CHANGES];
        private final int[] needs = new int[MOST_CHANGES];
        private final long[] cheapest = new long[MOST_ASKS + 1];
        private final long[] costs = new long[16];

        void addPerson(int subjects, int first, int last) {
            if (persons < 0 || persons >= MOST_PERSONS) {
                return;
            }
            knows[persons] = subjects;
            awayFrom[persons] = first;
            awayTo[persons] = last;
            persons++;
        }

        void addRule(int kind, int subjects) {
            asks |= subjects << 4 * kind;
        }

        void addChange(int kind, int day, int subjects) {
            if (changes < 0 || changes >= MOST_CHANGES) {
                return;
            }
            kinds[changes] = kind;
            days[changes] = day;
            needs[changes] = subjects;
            changes++;
        }

        boolean hasPerson(int person) {
            return person >= 0 && person < persons;
        }

        boolean hasChange(int change) {
            return change >= 0 && change < changes;
        }

        private boolean isThere(int person, int day) {
            return person >= 0 && person < MOST_PERSONS && (day < awayFrom[person] || day > awayTo[person]);
        }

        /** SUBJECTS that those there know, one PERSON (or NONE) being never away. */
        private int knownOn(int day, int never) {
            int known = 0;
            for (int person = 0; person < persons && person < MOST_PERSONS; person++) {
                if (person == never || isThere(person, day)) {
                    known |= knows[person];
                }
            }
            return known;
        }

        int firstKnowing(int subject, int day) {
            for (int person = 0; person < persons && person < MOST_PERSONS; person++) {
                if ((knows[person] >> subject & 1) != 0 && isThere(person, day)) {
                    return person;
                }
            }
            return NONE;
        }

        /** CHANGES that are ASKED all that they need, one PERSON (or NONE) being never away. */
        int wholeChanges(int never) {
            int whole = 0;
            for (int change = 0; change < changes && change < MOST_CHANGES; change++) {
                int asked = asks >> 4 * kinds[change] & knownOn(days[change], never);
                if ((needs[change] & ~asked) == 0) {
                    whole |= 1 << change;
                }
            }
            return whole;
        }

        int ofChange(int change, int what) {
            if (change < 0 || change >= MOST_CHANGES) {
                return NO_SUCH;
            }
            int ruled = asks >> 4 * kinds[change];
            int known = knownOn(days[change], NONE);
            switch (what) {
                case 0:
                    return needs[change] & ruled & known;
                case 1:
                    return needs[change] & ~ruled;
                case 2:
                    return needs[change] & ruled & ~known;
                case 3:
                    return needs[change] & ~known;
                default:
                    return NO_SUCH;
            }
        }

        /** CHANGES of a KIND that are ASKED all that they need, if it asks those SUBJECTS. */
        int askedAll(int kind, int subjects) {
            int many = 0;
            for (int change = 0; change < changes && change < MOST_CHANGES; change++) {
                if (kinds[change] == kind && (needs[change] & ~subjects) == 0) {
                    many++;
                }
            }
            return many;
        }

        /** CHANGES of a KIND that are asked what they need not, if it asks those SUBJECTS. */
        int askedInVain(int kind, int subjects) {
            int many = 0;
            for (int change = 0; change < changes && change < MOST_CHANGES; change++) {
                if (kinds[change] == kind && (subjects & ~needs[change]) != 0) {
                    many++;
                }
            }
            return many;
        }

        /**
         * The best RULES with at most n ASKS. What counts adds up over the KINDS, so the cheapest
         * set of each number of ASKS grows from those of the KINDS ahead.
         */
        int leastRules(int n) {
            for (int a = 0; a <= MOST_ASKS; a++) {
                cheapest[a] = a == 0 ? 0L : NO_WAY;
            }
            for (int kind = 0; kind < 4; kind++) {
                for (int subjects = 0; subjects < 16; subjects++) {
                    costs[subjects] = cost(kind, subjects);
                }
                // From the most down, so that what is read is still that of the KINDS ahead.
                for (int a = MOST_ASKS; a >= 0; a--) {
                    cheapest[a] = cheapestOf(a);
                }
            }
            long least = NO_WAY;
            for (int a = 0; a <= n && a <= MOST_ASKS; a++) {
                least = Math.min(least, cheapest[a]);
            }
            return (int) (least & 65535L);
        }

        private long cheapestOf(int asked) {
            long least = NO_WAY;
            for (int subjects = 0; subjects < 16; subjects++) {
                int left = asked - Integer.bitCount(subjects);
                if (left >= 0 && left <= MOST_ASKS && cheapest[left] != NO_WAY) {
                    least = Math.min(least, cheapest[left] + costs[subjects]);
                }
            }
            return least;
        }

        /** One number for all that counts, the weightier higher: its parts' sums never run over. */
        private long cost(int kind, int subjects) {
            long vain = askedInVain(kind, subjects);
            long all = askedAll(kind, subjects);
            long many = Integer.bitCount(subjects);
            return (vain << 24) - (all << 32) + (many << 16) + (subjects << 4 * kind);
        }
    }

    /** A SLOT's row, or nothing. */
    private static final class Row {
        boolean is = false;
        int width = 0;
        int size = 0;
        final long[] numbers = new long[MOST_NUMBERS];

        void begin(int newWidth, int n) {
            is = true;
            width = newWidth;
            size = Math.max(0, Math.min(n, MOST_NUMBERS));
            for (int i = 0; i < numbers.length; i++) {
                numbers[i] = 0L;
            }
        }

        long at(int i) {
            return i >= 0 && i < MOST_NUMBERS ? numbers[i] : 0L;
        }

        void set(int i, long v) {
            if (i >= 0 && i < MOST_NUMBERS) {
                numbers[i] = cut(v);
            }
        }

        private long cut(long v) {
            switch (width) {
                case 0:
                    return (byte) v;
                case 1:
                    return (short) v;
                case 2:
                    return (int) v;
                default:
                    return v;
            }
        }

        boolean hasSpan(int from, int n) {
            return from >= 0 && n >= 0 && (long) from + n <= size;
        }
    }
}
