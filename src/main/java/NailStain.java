import java.util.Arrays;

/** A ship known by its rivets alone: how it was built and buried, drawn, and got back from the sand. */
public final class NailStain {
    public static final int NONE = -1;

    private static final int STATIONS_LEAST = 3;
    private static final int STATIONS_MOST = 24;
    private static final int STRAKES_MOST = 8;
    private static final int SIDES = 2;
    private static final int RIVETS_MOST = 384;
    private static final int REACH = 3000;
    private static final int THOUSAND = 1000;

    private static final int TAPE_MOST = 220;
    private static final int FEED_BYTES = 20;
    private static final int NUMBER_BYTES = 4;
    private static final int TEXT_MOST = 200;
    private static final int CLAUSES_MOST = 14;
    private static final int LETTERS = 26;

    private static final int RULE = 0;
    private static final int SAND = 1;
    private static final int STAIN = 2;
    private static final int SPARE = 3;

    private static final int NO_PLACE = -10000;
    private static final int NO_NUMBER = -1000000;
    private static final int NOT_ENOUGH = -2;
    private static final int NOT_LAID = -3;

    private static final int ROUNDS_MOST = 9;
    private static final int YEAR_MOST = 2100;
    private static final int MARK_REACH = 6000;
    private static final int SHIFT_MOST = 2000;
    private static final int OFF_MOST = 12000;
    private static final int OUT_MOST = 40;
    private static final int SIZE_MOST = 99;
    private static final int SIZED_MOST = 60;
    private static final int HEIGHT_MOST = 200;
    private static final int WEIGHT_MOST = 2000000000;
    private static final int PLANK_MOST = 100000;
    private static final int STRENGTH_MOST = 10000;
    private static final int WET_MOST = 100;
    private static final int YEARS_MOST = 2000;

    private final Tape tape = new Tape();
    private final Parser parser = new Parser(tape);
    private final Text[] texts = new Text[] {new Text(), new Text(), new Text(), new Text()};
    private final int[] stainLetters = new int[LETTERS];
    private final Ship ship = new Ship();
    private final Drawings drawings = new Drawings(ship);
    private final Lines lines = new Lines(ship);
    private final Hull hull = new Hull(ship, lines);
    private final Sizes sizes = new Sizes(ship);
    private final Tholes tholes = new Tholes(ship);
    private final Soil soil = new Soil();
    private final Stories stories = new Stories();
    private int apart = 100;

    public NailStain() {
    }

    public boolean pitch(int n) {
        if (!within(n, 1, THOUSAND)) {
            return false;
        }
        apart = n;
        return true;
    }

    public boolean seed(int x) {
        if (!within(x, 0, 65535)) {
            return false;
        }
        ship.chance = x;
        return true;
    }

    public int feed(int a, int b, int c, int d, int e) {
        if (!tape.hasRoom(FEED_BYTES)) {
            return NONE;
        }
        tape.put(a);
        tape.put(b);
        tape.put(c);
        tape.put(d);
        tape.put(e);
        return tape.used;
    }

    public int rule(int n) {
        return readText(RULE, n, "yz");
    }

    public int sand(int n) {
        return readText(SAND, n, "abg");
    }

    public int stain(int n) {
        return readText(STAIN, n, "e");
    }

    private int readText(int which, int n, String starts) {
        if (!within(n, 1, TEXT_MOST) || n > tape.used) {
            return NONE;
        }
        Text fresh = texts[SPARE];
        int answer = parser.read(n, starts, fresh);
        tape.empty();
        if (answer > 0) {
            texts[SPARE] = texts[which];
            texts[which] = fresh;
        }
        return answer;
    }

    public int build(int stations, int strakes) {
        if (!within(stations, STATIONS_LEAST, STATIONS_MOST) || !within(strakes, 1, STRAKES_MOST)) {
            return NONE;
        }
        drawings.fall();
        tholes.fall();
        return ship.raise(stations, strakes, texts[RULE]);
    }

    public boolean mound(int station, int weight) {
        if (!within(station, 0, STATIONS_MOST - 1) || !within(weight, 0, THOUSAND)) {
            return false;
        }
        ship.mounds[station] = weight;
        return true;
    }

    public int bury(int rounds) {
        if (!ship.stands() || !within(rounds, 1, ROUNDS_MOST)) {
            return NONE;
        }
        ship.sink(rounds, texts[SAND]);
        return ship.left();
    }

    public boolean lies(int station, int strake, int side, int y, int z) {
        int rivet = ship.rivetAt(station, strake, side);
        if (rivet < 0 || !within(y, -REACH, REACH) || !within(z, -REACH, REACH)) {
            return false;
        }
        ship.tell(rivet, strake, y, z);
        return true;
    }

    public boolean gone(int station, int strake, int side) {
        int rivet = ship.rivetAt(station, strake, side);
        if (rivet < 0 || ship.isGone[rivet]) {
            return false;
        }
        ship.lose(rivet, strake);
        return true;
    }

    public int rivet(int station, int strake, int side, int what) {
        int rivet = ship.rivetAt(station, strake, side);
        if (rivet < 0) {
            return NO_PLACE;
        }
        switch (what) {
            case 0:
                return ship.across[rivet];
            case 1:
                return ship.deep[rivet];
            case 2:
                return ship.isGone[rivet] ? 1 : 0;
            case 3:
                return ship.sizeOf[rivet];
            case 4:
                return ship.isSeen(rivet, station) ? 1 : 0;
            default:
                return NO_PLACE;
        }
    }

    public boolean cut(int stations) {
        if ((stations & ~ship.allStations()) != 0) {
            return false;
        }
        ship.cutAway(stations);
        return true;
    }

    public int drawing(int year) {
        if (!ship.stands() || !within(year, 0, YEAR_MOST)) {
            return NONE;
        }
        return drawings.begin();
    }

    public boolean mark(int drawing, int station, int strake, int side, int y, int z) {
        int rivet = ship.rivetAt(station, strake, side);
        if (rivet < 0 || !drawings.has(drawing)
                || !within(y, -MARK_REACH, MARK_REACH) || !within(z, -MARK_REACH, MARK_REACH)) {
            return false;
        }
        drawings.put(drawing, rivet, y, z);
        return true;
    }

    public int draw(int drawing, int dy, int dz, int thousandths) {
        if (!drawings.has(drawing) || !within(dy, -SHIFT_MOST, SHIFT_MOST)
                || !within(dz, -SHIFT_MOST, SHIFT_MOST) || !within(thousandths, 0, THOUSAND)) {
            return NONE;
        }
        drawings.take(drawing, dy, dz, thousandths);
        return drawings.marksOf(drawing);
    }

    public int marked(int drawing, int station, int strake, int side, int what) {
        int rivet = ship.rivetAt(station, strake, side);
        if (rivet < 0 || !within(what, 0, 1) || !drawings.hasMark(drawing, rivet)) {
            return NO_PLACE;
        }
        return drawings.at(drawing, rivet, what);
    }

    public int joined(int a, int b, int what) {
        if (!drawings.areTwo(a, b) || !within(what, 0, 4)) {
            return NO_NUMBER;
        }
        int common = drawings.common(a, b);
        if (what == 2) {
            return common;
        }
        if (common == 0) {
            return NO_NUMBER;
        }
        if (what < 2) {
            return drawings.shift(a, b, what);
        }
        return drawings.rest(a, b, what - 3);
    }

    public int off(int a, int b, int much) {
        if (!drawings.areTwo(a, b) || !within(much, 0, OFF_MOST) || drawings.common(a, b) == 0) {
            return NONE;
        }
        return drawings.farther(a, b, much);
    }

    public int slipped(int a, int b, int c, int station, int strake, int side) {
        int rivet = ship.rivetAt(station, strake, side);
        if (rivet < 0 || a == b || a == c || b == c) {
            return NONE;
        }
        if (!drawings.hasMark(a, rivet) || !drawings.hasMark(b, rivet) || !drawings.hasMark(c, rivet)) {
            return NONE;
        }
        int first = drawings.distance(a, c, rivet);
        int second = drawings.distance(b, c, rivet);
        if (first == second) {
            return 2;
        }
        return first > second ? 0 : 1;
    }

    public int span(int strake, int station, int out, int what) {
        if (!within(station, 0, ship.stations - 1) || !within(what, 0, 1) || !lines.spread(strake, out)) {
            return NO_PLACE;
        }
        return what == 0 ? lines.low[station] : lines.high[station];
    }

    public long batten(int strake, int out, int what) {
        if (!within(what, NONE, ship.stations - 1) || !lines.fits(strake, out)) {
            return NO_NUMBER;
        }
        return what == NONE ? lines.squares[strake] : lines.lineAt(strake, what);
    }

    public int lost(int strake, int out, int end) {
        if (!within(end, 0, 1) || !lines.fits(strake, out)) {
            return NONE;
        }
        return lines.beyond(strake, end);
    }

    public boolean size(int station, int strake, int side, int n) {
        int rivet = ship.rivetAt(station, strake, side);
        if (rivet < 0 || !within(n, 0, SIZE_MOST) || sizes.othersWith(rivet) >= SIZED_MOST) {
            return false;
        }
        ship.sizeOf[rivet] = n;
        return true;
    }

    public long repairs(int strake, int much, int what) {
        if (!within(strake, 0, ship.strakes - 1) || !within(much, 0, SIZE_MOST) || !within(what, 0, 3)) {
            return -1;
        }
        sizes.sort(strake, much);
        switch (what) {
            case 0:
                return sizes.oddHere;
            case 1:
                return sizes.sizedHere;
            default:
                return reduced(sizes.waysAsOdd(), sizes.ways(), what == 2);
        }
    }

    public boolean thole(int station, int side, int seen) {
        if (!within(station, 0, ship.stations - 1) || !within(side, 0, SIDES - 1) || !within(seen, -1, 1)) {
            return false;
        }
        tholes.tell(station, side, seen);
        return true;
    }

    public int oars(int what) {
        if (!ship.stands()) {
            return NONE;
        }
        switch (what) {
            case 0:
                return tholes.pairsSeen();
            case 1:
                return tholes.pairsThatMayBe();
            case 2:
                return tholes.known();
            case 3:
                return tholes.seen();
            default:
                return NONE;
        }
    }

    public long pair(int station, int what) {
        if (!within(station, 0, ship.stations - 1) || !within(what, 0, 1)) {
            return -1;
        }
        if (tholes.known() == 0) {
            return NOT_ENOUGH;
        }
        long above = (long) tholes.above(station, 0) * tholes.above(station, 1);
        long below = (long) tholes.below(station, 0) * tholes.below(station, 1);
        return reduced(above, below, what == 0);
    }

    public boolean phosphor(int column, int row, int n) {
        if (!within(column, 0, Soil.COLUMNS - 1) || !within(row, 0, Soil.ROWS - 1) || !within(n, 0, 999)) {
            return false;
        }
        soil.put(column, row, n);
        return true;
    }

    public int body(int w, int h, int what) {
        if (!within(w, 1, Soil.COLUMNS) || !within(h, 1, Soil.ROWS) || !within(what, 0, 4)) {
            return NONE;
        }
        soil.seek(w, h);
        switch (what) {
            case 0:
                return soil.bestColumn;
            case 1:
                return soil.bestRow;
            case 2:
                return soil.most;
            case 3:
                return soil.rank;
            default:
                return soil.places;
        }
    }

    public boolean story(int k, int i, int thousandths) {
        if (!within(k, 0, Stories.MOST - 1) || !within(i, 0, Stories.SIGNS - 1) || !within(thousandths, 0, THOUSAND)) {
            return false;
        }
        stories.tell(k, i, thousandths);
        return true;
    }

    public boolean sign(int i, int seen) {
        if (!within(i, 0, Stories.SIGNS - 1) || !within(seen, -1, 1)) {
            return false;
        }
        stories.signs[i] = seen;
        return true;
    }

    public long odds(int k) {
        if (k == NONE) {
            return stories.together();
        }
        if (!within(k, 0, Stories.MOST - 1) || !stories.isTold[k]) {
            return -1;
        }
        return stories.product(k);
    }

    public int next(int what) {
        if (!within(what, 0, 1) || stories.told() == 0) {
            return NONE;
        }
        int best = stories.partingMost();
        if (best < 0) {
            return NONE;
        }
        return what == 0 ? best : stories.parted(best);
    }

    public long area(int station, int height, int out, int w) {
        if (!within(station, 0, ship.stations - 1) || !within(w, 0, ship.strakes - 1)
                || !within(height, 1, HEIGHT_MOST) || !hull.isToldUpTo(ship.strakes - 1, out)) {
            return -1;
        }
        return hull.section(station, height, w);
    }

    public long volume(int height, int out, int w) {
        if (!within(w, 0, ship.strakes - 1) || !within(height, 1, HEIGHT_MOST)
                || !hull.isToldUpTo(ship.strakes - 1, out)) {
            return -1;
        }
        return hull.room(height, w, apart);
    }

    public int depth(int height, int out, int weight) {
        if (!within(weight, 0, WEIGHT_MOST) || !within(height, 1, HEIGHT_MOST)
                || !hull.isToldUpTo(ship.strakes - 1, out)) {
            return NONE;
        }
        return hull.leastLine(height, weight, apart);
    }

    public int pace(int k) {
        if (!within(k, 1, THOUSAND) || !ship.stands()) {
            return NONE;
        }
        return root(k * (ship.stations - 1) * apart);
    }

    public int length(int strake, int out) {
        if (!lines.fits(strake, out)) {
            return NONE;
        }
        return hull.whole(strake, apart);
    }

    public int joints(int strake, int out, int most, int what) {
        // What is not told refuses the call, even where a strake below it can't be laid.
        if (!within(most, 1, PLANK_MOST) || what < NONE || !hull.isToldUpTo(strake, out)) {
            return NOT_LAID;
        }
        if (!hull.layUpTo(strake, most, apart)) {
            return NOT_ENOUGH;
        }
        if (what == NONE) {
            return hull.meetings;
        }
        return what < hull.meetings ? hull.meetingAt[what] : NOT_LAID;
    }

    public int lasts(int v, int wet) {
        if (!within(v, 1, STRENGTH_MOST) || !within(wet, 0, WET_MOST)) {
            return NONE;
        }
        stainLetters['n' - 'a'] = ship.stations;
        stainLetters['k' - 'a'] = ship.strakes;
        stainLetters['w' - 'a'] = wet;
        int strength = v;
        for (int year = 0; year < YEARS_MOST; year++) {
            stainLetters['t' - 'a'] = year;
            stainLetters['v' - 'a'] = strength;
            strength -= texts[STAIN].value('e', stainLetters, 0, THOUSAND);
            if (strength <= 0) {
                return year + 1;
            }
        }
        return NOT_ENOUGH;
    }

    public int check(int strake, int out, int n) {
        if (n < 0 || n > tape.used / NUMBER_BYTES || !lines.fits(strake, out)) {
            return -2;
        }
        int wrong = firstWrong(strake, n);
        tape.empty();
        return wrong;
    }

    private int firstWrong(int strake, int n) {
        for (int i = 0; i < n; i++) {
            if (i >= ship.stations || tape.numberAt(i) != lines.lineAt(strake, i)) {
                return i;
            }
        }
        return n < ship.stations ? n : NONE;
    }

    public int count(int what) {
        switch (what) {
            case 0:
                return ship.stations;
            case 1:
                return ship.strakes;
            case 2:
                return ship.left();
            case 3:
                return ship.chance;
            case 4:
                return tape.used;
            case 5:
            case 6:
            case 7:
                return texts[what - 5].clauses;
            case 8:
                return drawings.made;
            case 9:
                return stories.told();
            default:
                return what >= 10 && drawings.has(what - 10) ? drawings.marksOf(what - 10) : NONE;
        }
    }

    private static boolean within(int n, int least, int most) {
        return n >= least && n <= most;
    }

    private static int held(int n, int least, int most) {
        return Math.max(least, Math.min(most, n));
    }

    /** The root, rounded down, of what is below 2 to the 30th. */
    private static int root(int n) {
        int found = 0;
        for (int bit = 1 << 14; bit > 0; bit >>= 1) {
            int more = found + bit;
            if (more * more <= n) {
                found = more;
            }
        }
        return found;
    }

    private static long reduced(long above, long below, boolean wantsAbove) {
        long divisor = commonDivisor(above, below);
        long wanted = wantsAbove ? above : below;
        return divisor == 0 ? wanted : wanted / divisor;
    }

    private static long commonDivisor(long a, long b) {
        long big = a;
        long small = b;
        // Euclid needs fewer than 93 steps for any two longs.
        for (int step = 0; step < 100 && small != 0; step++) {
            long rest = big % small;
            big = small;
            small = rest;
        }
        return big;
    }

    /** The bytes that were fed and not yet read. */
    private static final class Tape {
        private static final int END = -1;

        private final byte[] bytes = new byte[TAPE_MOST];
        private int used;

        boolean hasRoom(int more) {
            return more <= bytes.length - used;
        }

        void put(int number) {
            for (int shift = 24; shift >= 0 && used < bytes.length; shift -= 8) {
                bytes[used] = (byte) (number >>> shift);
                used++;
            }
        }

        int byteAt(int place) {
            return place >= 0 && place < used ? bytes[place] & 255 : END;
        }

        int numberAt(int place) {
            int number = 0;
            for (int i = 0; i < NUMBER_BYTES; i++) {
                number = (number << 8) | (byteAt(place * NUMBER_BYTES + i) & 255);
            }
            return number;
        }

        void empty() {
            used = 0;
        }
    }

    /** A text as steps for a small stack machine, so that what is asked often need not be read again. */
    private static final class Text {
        private static final int END = 0;
        private static final int NUMBER = 1;
        private static final int LETTER = 2;
        private static final int ADD = 3;
        private static final int SUBTRACT = 4;
        private static final int MULTIPLY = 5;
        private static final int DIVIDE = 6;
        private static final int MODULO = 7;
        private static final int LESS = 8;
        private static final int MORE = 9;
        private static final int EQUAL = 10;
        private static final int NOT = 11;
        private static final int SKIP_IF_FALSE = 12;
        private static final int SKIP_IF_TRUE = 13;
        private static final int KIND_BITS = 4;
        private static final int KIND_MASK = 15;
        // Seven levels of brackets keep two numbers waiting each, a comparison one more.
        private static final int STACK = 32;

        private final int[] steps = new int[TEXT_MOST];
        private final int[] stack = new int[STACK];
        private final int[] letterOf = new int[CLAUSES_MOST];
        private final int[] numberFrom = new int[CLAUSES_MOST];
        private final int[] conditionFrom = new int[CLAUSES_MOST];
        private int used;
        private int clauses;
        private int top;
        private boolean refused;

        void clear() {
            used = 0;
            clauses = 0;
        }

        void beginClause(int letter) {
            if (clauses < CLAUSES_MOST) {
                letterOf[clauses] = letter;
                numberFrom[clauses] = used;
                clauses++;
            }
        }

        void beginCondition() {
            if (clauses > 0) {
                conditionFrom[clauses - 1] = used;
            }
        }

        /** Every step comes of a byte of its own, so there is room for all of them. */
        int add(int kind, int operand) {
            if (used >= steps.length) {
                return used;
            }
            steps[used] = (operand << KIND_BITS) | kind;
            used++;
            return used - 1;
        }

        void landHere(int skip) {
            if (skip >= 0 && skip < used) {
                steps[skip] = (used << KIND_BITS) | (steps[skip] & KIND_MASK);
            }
        }

        int value(int letter, int[] letters, int least, int most) {
            for (int i = 0; i < clauses; i++) {
                if (letterOf[i] == letter && run(conditionFrom[i], letters) != 0) {
                    return held(run(numberFrom[i], letters), least, most);
                }
            }
            return 0;
        }

        /** What is refused answers 0: a condition does not hold by that, and a number is 0 then. */
        private int run(int from, int[] letters) {
            refused = false;
            top = 0;
            int at = from;
            // A skip only goes ahead, so no run is longer than the text.
            for (int turn = 0; turn < steps.length && at >= 0 && at < used && !refused; turn++) {
                if ((steps[at] & KIND_MASK) == END) {
                    break;
                }
                at = stepOn(at, letters);
            }
            return refused ? 0 : pop();
        }

        private int stepOn(int at, int[] letters) {
            int kind = steps[at] & KIND_MASK;
            int operand = steps[at] >> KIND_BITS;
            int found;
            switch (kind) {
                case NUMBER:
                    push(operand);
                    return at + 1;
                case LETTER:
                    push(operand < letters.length ? letters[operand] : 0);
                    return at + 1;
                case NOT:
                    push(1 - pop());
                    return at + 1;
                case SKIP_IF_FALSE:
                case SKIP_IF_TRUE:
                    found = pop();
                    if (found == (kind == SKIP_IF_TRUE ? 1 : 0)) {
                        push(found);
                        return operand;
                    }
                    return at + 1;
                default:
                    found = pop();
                    push(reckon(kind, pop(), found));
                    return at + 1;
            }
        }

        private void push(int number) {
            if (top < stack.length) {
                stack[top] = number;
                top++;
            }
        }

        private int pop() {
            if (top == 0) {
                return 0;
            }
            top--;
            return stack[top];
        }

        private int reckon(int kind, int left, int right) {
            switch (kind) {
                case ADD:
                    return left + right;
                case SUBTRACT:
                    return left - right;
                case MULTIPLY:
                    return left * right;
                case LESS:
                    return left < right ? 1 : 0;
                case MORE:
                    return left > right ? 1 : 0;
                case EQUAL:
                    return left == right ? 1 : 0;
                default:
                    if (right == 0) {
                        refused = true;
                        return 0;
                    }
                    return kind == DIVIDE ? left / right : left % right;
            }
        }
    }

    /** Reads a text from the tape, byte by byte, up to its first fault. */
    private static final class Parser {
        private static final int CANNOT_STAND = 1;
        private static final int SIXTH_DIGIT = 2;
        private static final int TOO_MANY_CLAUSES = 4;
        private static final int TOO_DEEP = 5;
        private static final int OPEN_MOST = 6;
        private static final int DIGITS_MOST = 5;
        private static final String KNOWN = "fsdnckyzmxtvw";
        private static final String DIGITS = "0123456789";

        private final Tape tape;
        private Text text;
        private int end;
        private int at;
        private int sign;
        private int open;
        private int fault;

        Parser(Tape tape) {
            this.tape = tape;
        }

        /** How many clauses, or the first fault with its place. */
        int read(int bytes, String starts, Text into) {
            text = into;
            text.clear();
            end = bytes;
            at = 0;
            sign = tape.byteAt(0);
            open = 0;
            fault = 0;
            readClause(starts);
            while (at < end && isOneOf(";")) {
                advance();
                readClause(starts);
            }
            if (at < end) {
                refuse(CANNOT_STAND);
            }
            return fault == 0 ? text.clauses : -1000 * fault - at;
        }

        private void advance() {
            at++;
            sign = at < end ? tape.byteAt(at) : Tape.END;
        }

        /** The place of a fault is where reading stands: behind a fault nothing moves on. */
        private void refuse(int number) {
            if (fault == 0) {
                fault = number;
            }
        }

        private void take(String wanted) {
            if (isOneOf(wanted)) {
                advance();
            } else {
                refuse(CANNOT_STAND);
            }
        }

        private boolean isOneOf(String signs) {
            return fault == 0 && sign >= 0 && signs.indexOf((char) sign) >= 0;
        }

        private void readClause(String starts) {
            if (!isOneOf(starts)) {
                refuse(CANNOT_STAND);
                return;
            }
            if (text.clauses >= CLAUSES_MOST) {
                refuse(TOO_MANY_CLAUSES);
                return;
            }
            text.beginClause(sign);
            advance();
            readSum();
            text.add(Text.END, 0);
            text.beginCondition();
            take("(");
            open++;
            readAny();
            open--;
            take(")");
            text.add(Text.END, 0);
        }

        private boolean opens() {
            if (open >= OPEN_MOST) {
                refuse(TOO_DEEP);
                return false;
            }
            open++;
            advance();
            return true;
        }

        private void readAny() {
            readAll();
            while (at < end && isOneOf("|")) {
                advance();
                int skip = text.add(Text.SKIP_IF_TRUE, 0);
                readAll();
                text.landHere(skip);
            }
        }

        private void readAll() {
            readPiece();
            while (at < end && isOneOf("&")) {
                advance();
                int skip = text.add(Text.SKIP_IF_FALSE, 0);
                readPiece();
                text.landHere(skip);
            }
        }

        private void readPiece() {
            if (isOneOf("!")) {
                if (opens()) {
                    readPiece();
                    open--;
                    text.add(Text.NOT, 0);
                }
            } else if (isOneOf("(")) {
                if (opens()) {
                    readAny();
                    open--;
                    take(")");
                }
            } else {
                readSum();
                int kind = sign == '<' ? Text.LESS : sign == '>' ? Text.MORE : Text.EQUAL;
                take("<>=");
                readSum();
                text.add(kind, 0);
            }
        }

        private void readSum() {
            readProduct();
            while (at < end && isOneOf("+-")) {
                int kind = sign == '+' ? Text.ADD : Text.SUBTRACT;
                advance();
                readProduct();
                text.add(kind, 0);
            }
        }

        private void readProduct() {
            readFactor();
            while (at < end && isOneOf("*/%")) {
                int kind = sign == '*' ? Text.MULTIPLY : sign == '/' ? Text.DIVIDE : Text.MODULO;
                advance();
                readFactor();
                text.add(kind, 0);
            }
        }

        private void readFactor() {
            if (isOneOf("[")) {
                if (opens()) {
                    readSum();
                    open--;
                    take("]");
                }
            } else if (isOneOf(KNOWN)) {
                text.add(Text.LETTER, sign - 'a');
                advance();
            } else if (isOneOf(DIGITS)) {
                readNumber();
            } else {
                refuse(CANNOT_STAND);
            }
        }

        private void readNumber() {
            int number = 0;
            for (int digit = 0; digit < DIGITS_MOST && isOneOf(DIGITS); digit++) {
                number = number * 10 + sign - '0';
                advance();
            }
            if (isOneOf(DIGITS)) {
                refuse(SIXTH_DIGIT);
            }
            text.add(Text.NUMBER, number);
        }
    }

    /** The rivets, where they lie, and what the sand and a robber did to them. */
    private static final class Ship {
        private final int[] across = new int[RIVETS_MOST];
        private final int[] deep = new int[RIVETS_MOST];
        private final int[] sizeOf = new int[RIVETS_MOST];
        private final boolean[] isGone = new boolean[RIVETS_MOST];
        private final int[] mounds = new int[STATIONS_MOST];
        // Each strake tells by a number that grows whether a line that was got back is still true.
        private final int[] changes = new int[STRAKES_MOST];
        private final int[] letters = new int[LETTERS];
        private int stations;
        private int strakes;
        private int cutStations;
        private int chance = 1;

        boolean stands() {
            return stations > 0;
        }

        int rivetAt(int station, int strake, int side) {
            if (!within(station, 0, stations - 1) || !within(strake, 0, strakes - 1) || !within(side, 0, SIDES - 1)) {
                return NONE;
            }
            return (station * STRAKES_MOST + strake) * SIDES + side;
        }

        int allStations() {
            return (1 << stations) - 1;
        }

        int luck() {
            chance = (25173 * chance + 13849) % 65536;
            return chance % THOUSAND;
        }

        int raise(int newStations, int newStrakes, Text rule) {
            stations = newStations;
            strakes = newStrakes;
            cutStations = 0;
            Arrays.fill(sizeOf, 0);
            Arrays.fill(letters, 0);
            for (int station = 0; station < stations; station++) {
                for (int strake = 0; strake < strakes; strake++) {
                    for (int side = 0; side < SIDES; side++) {
                        set(station, strake, side, rule);
                    }
                }
            }
            touchAll();
            return stations * strakes * SIDES;
        }

        private void set(int station, int strake, int side, Text rule) {
            int rivet = rivetAt(station, strake, side);
            if (rivet < 0) {
                return;
            }
            standAt(station, strake, side);
            across[rivet] = rule.value('y', letters, -REACH, REACH);
            deep[rivet] = rule.value('z', letters, -REACH, REACH);
            isGone[rivet] = false;
        }

        private void standAt(int station, int strake, int side) {
            letters['f' - 'a'] = station;
            letters['s' - 'a'] = strake;
            letters['d' - 'a'] = side;
            letters['n' - 'a'] = stations;
            letters['c' - 'a'] = Math.min(station, stations - 1 - station);
            letters['k' - 'a'] = strakes;
        }

        void sink(int rounds, Text sand) {
            for (int round = 0; round < rounds; round++) {
                for (int station = 0; station < stations; station++) {
                    for (int strake = 0; strake < strakes; strake++) {
                        for (int side = 0; side < SIDES; side++) {
                            sinkOne(station, strake, side, sand);
                        }
                    }
                }
            }
            touchAll();
        }

        private void sinkOne(int station, int strake, int side, Text sand) {
            int rivet = rivetAt(station, strake, side);
            if (rivet < 0 || isGone[rivet]) {
                return;
            }
            int luck = luck();
            standAt(station, strake, side);
            letters['y' - 'a'] = across[rivet];
            letters['z' - 'a'] = deep[rivet];
            letters['m' - 'a'] = mounds[station];
            letters['x' - 'a'] = luck;
            if (luck < sand.value('g', letters, 0, THOUSAND)) {
                isGone[rivet] = true;
                return;
            }
            int a = sand.value('a', letters, -THOUSAND, THOUSAND);
            int b = sand.value('b', letters, -THOUSAND, THOUSAND);
            across[rivet] = held(across[rivet] + a, -REACH, REACH);
            deep[rivet] = held(deep[rivet] + b, -REACH, REACH);
        }

        void tell(int rivet, int strake, int y, int z) {
            across[rivet] = y;
            deep[rivet] = z;
            isGone[rivet] = false;
            changes[strake]++;
        }

        void lose(int rivet, int strake) {
            isGone[rivet] = true;
            changes[strake]++;
        }

        void cutAway(int set) {
            cutStations = set;
            touchAll();
        }

        private void touchAll() {
            for (int strake = 0; strake < STRAKES_MOST; strake++) {
                changes[strake]++;
            }
        }

        boolean isCut(int station) {
            return (cutStations >> station & 1) != 0;
        }

        boolean isSeen(int rivet, int station) {
            return !isGone[rivet] && !isCut(station);
        }

        int left() {
            int found = 0;
            for (int station = 0; station < stations; station++) {
                for (int strake = 0; strake < strakes; strake++) {
                    for (int side = 0; side < SIDES; side++) {
                        int rivet = rivetAt(station, strake, side);
                        found += rivet < 0 || isGone[rivet] ? 0 : 1;
                    }
                }
            }
            return found;
        }
    }

    /** Up to four drawings; a mark stands at its drawing's rows, by its rivet. */
    private static final class Drawings {
        private static final int MOST = 4;
        private static final int SLIP = 50;
        private static final int APART_MOST = 12000;
        // Fifteen halvings leave one of the 24001 shifts.
        private static final int HALVINGS = 15;

        private final Ship ship;
        private final int[] across = new int[MOST * RIVETS_MOST];
        private final int[] deep = new int[MOST * RIVETS_MOST];
        private final boolean[] isMarked = new boolean[MOST * RIVETS_MOST];
        private final int[] gaps = new int[RIVETS_MOST];
        private final int[] deepGaps = new int[RIVETS_MOST];
        private int made;

        Drawings(Ship ship) {
            this.ship = ship;
        }

        void fall() {
            made = 0;
        }

        /** Nothing asks for a drawing's year again, so it is not kept. */
        int begin() {
            if (made >= MOST) {
                return NONE;
            }
            for (int rivet = 0; rivet < RIVETS_MOST; rivet++) {
                isMarked[made * RIVETS_MOST + rivet] = false;
            }
            made++;
            return made - 1;
        }

        boolean has(int drawing) {
            return within(drawing, 0, made - 1);
        }

        boolean areTwo(int a, int b) {
            return has(a) && has(b) && a != b;
        }

        boolean hasMark(int drawing, int rivet) {
            return has(drawing) && within(rivet, 0, RIVETS_MOST - 1) && isMarked[drawing * RIVETS_MOST + rivet];
        }

        void put(int drawing, int rivet, int y, int z) {
            int place = drawing * RIVETS_MOST + rivet;
            across[place] = y;
            deep[place] = z;
            isMarked[place] = true;
        }

        int at(int drawing, int rivet, int which) {
            int place = drawing * RIVETS_MOST + rivet;
            return which == 0 ? across[place] : deep[place];
        }

        void take(int drawing, int dy, int dz, int thousandths) {
            for (int station = 0; station < ship.stations; station++) {
                for (int strake = 0; strake < ship.strakes; strake++) {
                    for (int side = 0; side < SIDES; side++) {
                        int rivet = ship.rivetAt(station, strake, side);
                        if (rivet >= 0 && ship.isSeen(rivet, station)) {
                            int slip = ship.luck() < thousandths ? SLIP : 0;
                            put(drawing, rivet, ship.across[rivet] + dy + slip, ship.deep[rivet] + dz);
                        }
                    }
                }
            }
        }

        int marksOf(int drawing) {
            int found = 0;
            for (int rivet = 0; rivet < RIVETS_MOST; rivet++) {
                found += hasMark(drawing, rivet) ? 1 : 0;
            }
            return found;
        }

        /** Puts in a row how far the marks of b are from those of a, by rivets that both have: how many. */
        private int gather(int a, int b, int which, int[] row) {
            int common = 0;
            for (int rivet = 0; rivet < RIVETS_MOST; rivet++) {
                if (hasMark(a, rivet) && hasMark(b, rivet)) {
                    row[common] = at(b, rivet, which) - at(a, rivet, which);
                    common++;
                }
            }
            return common;
        }

        int common(int a, int b) {
            return gather(a, b, 0, gaps);
        }

        int shift(int a, int b, int which) {
            return lowerMedian(gaps, gather(a, b, which, gaps));
        }

        /** No shift leaves less than the median does, and of two middle ones the lower is the least such shift. */
        private static int lowerMedian(int[] row, int many) {
            int least = -APART_MOST;
            int most = APART_MOST;
            for (int halving = 0; halving < HALVINGS && least < most; halving++) {
                int middle = Math.floorDiv(least + most, 2);
                int notAbove = 0;
                for (int i = 0; i < many; i++) {
                    notAbove += row[i] <= middle ? 1 : 0;
                }
                if (2 * notAbove >= many) {
                    most = middle;
                } else {
                    least = middle + 1;
                }
            }
            return least;
        }

        int rest(int a, int b, int which) {
            int common = gather(a, b, which, gaps);
            int median = lowerMedian(gaps, common);
            int sum = 0;
            for (int i = 0; i < common; i++) {
                sum += Math.abs(gaps[i] - median);
            }
            return sum;
        }

        int farther(int a, int b, int much) {
            int common = gather(a, b, 0, gaps);
            gather(a, b, 1, deepGaps);
            int median = lowerMedian(gaps, common);
            int deepMedian = lowerMedian(deepGaps, common);
            int found = 0;
            for (int i = 0; i < common; i++) {
                if (Math.abs(gaps[i] - median) > much || Math.abs(deepGaps[i] - deepMedian) > much) {
                    found++;
                }
            }
            return found;
        }

        int distance(int drawing, int third, int rivet) {
            int sum = 0;
            for (int which = 0; which < 2; which++) {
                int gap = at(third, rivet, which) - at(drawing, rivet, which);
                sum += Math.abs(gap - shift(drawing, third, which));
            }
            return sum;
        }
    }

    /** The lines got back: spans of a strake, and the smoothest row within them. */
    private static final class Lines {
        private static final int SPAN_MOST = 60;
        private static final int WIDE = SPAN_MOST + 1;
        // No row of 24 stations between -3040 and 3040 is bent as much as that.
        private static final long BENT_BEYOND = 1L << 40;

        private final Ship ship;
        private final int[] low = new int[STATIONS_MOST];
        private final int[] high = new int[STATIONS_MOST];
        private final boolean[] isSeen = new boolean[STATIONS_MOST];
        private final int[] line = new int[STRAKES_MOST * STATIONS_MOST];
        private final long[] squares = new long[STRAKES_MOST];
        private final boolean[] isTold = new boolean[STRAKES_MOST];
        private final int[] outOf = new int[STRAKES_MOST];
        private final int[] changeOf = new int[STRAKES_MOST];
        // For y of two neighbouring stations: the least squares from there on, and the best y behind them.
        private final byte[] bestBehind = new byte[(STATIONS_MOST - 2) * WIDE * WIDE];
        private long[] squaresHere = new long[WIDE * WIDE];
        private long[] squaresBehind = new long[WIDE * WIDE];

        Lines(Ship ship) {
            this.ship = ship;
        }

        int lineAt(int strake, int station) {
            return line[strake * STATIONS_MOST + station];
        }

        /** Lays a strake's line, unless the one laid last is still true: is it told? */
        boolean fits(int strake, int out) {
            if (!within(strake, 0, ship.strakes - 1) || !within(out, 0, OUT_MOST)) {
                return false;
            }
            if (outOf[strake] != out || changeOf[strake] != ship.changes[strake]) {
                outOf[strake] = out;
                changeOf[strake] = ship.changes[strake];
                isTold[strake] = spread(strake, out);
                if (isTold[strake]) {
                    lay(strake);
                }
            }
            return isTold[strake];
        }

        boolean spread(int strake, int out) {
            if (!within(strake, 0, ship.strakes - 1) || !within(out, 0, OUT_MOST)) {
                return false;
            }
            boolean any = false;
            for (int station = 0; station < ship.stations; station++) {
                look(strake, station, out);
                any = any || isSeen[station];
            }
            if (!any) {
                return false;
            }
            boolean narrow = true;
            for (int station = 0; station < ship.stations; station++) {
                bridge(station);
                narrow = narrow && high[station] - low[station] <= SPAN_MOST;
            }
            return narrow;
        }

        private void look(int strake, int station, int out) {
            int least = REACH + 1;
            int most = -REACH - 1;
            for (int side = 0; side < SIDES; side++) {
                int rivet = ship.rivetAt(station, strake, side);
                if (rivet >= 0 && ship.isSeen(rivet, station)) {
                    least = Math.min(least, ship.across[rivet]);
                    most = Math.max(most, ship.across[rivet]);
                }
            }
            isSeen[station] = least <= most;
            low[station] = least - out;
            high[station] = most + out;
        }

        private void bridge(int station) {
            if (isSeen[station]) {
                return;
            }
            int before = station;
            while (before >= 0 && !isSeen[before]) {
                before--;
            }
            int behind = station;
            while (behind < ship.stations && !isSeen[behind]) {
                behind++;
            }
            int left = before >= 0 ? before : behind;
            int right = behind < ship.stations ? behind : before;
            if (left < ship.stations && right >= 0) {
                low[station] = Math.min(low[left], low[right]);
                high[station] = Math.max(high[left], high[right]);
            }
        }

        private int wide(int station) {
            return high[station] - low[station] + 1;
        }

        private void lay(int strake) {
            Arrays.fill(squaresBehind, 0L);
            for (int station = ship.stations - 3; station >= 0; station--) {
                for (int second = 0; second < wide(station + 1); second++) {
                    bend(station, second);
                }
                long[] done = squaresHere;
                squaresHere = squaresBehind;
                squaresBehind = done;
            }
            follow(strake);
        }

        /**
         * For all y of a station, with one y of the next: the best y behind. It never grows as y grows, so those
         * found already, far apart first, bound the search for those between them.
         */
        private void bend(int station, int second) {
            int wide = wide(station);
            for (int stride = 32; stride >= 1; stride /= 2) {
                for (int turn = stride; turn <= wide; turn += 2 * stride) {
                    int from = turn + stride <= wide ? bestBehind[pairOf(station, turn + stride - 1, second)] : 0;
                    int to = turn > stride ? bestBehind[pairOf(station, turn - stride - 1, second)]
                            : wide(station + 2) - 1;
                    choose(station, turn - 1, second, from, to);
                }
            }
        }

        private int pairOf(int station, int first, int second) {
            return (station * WIDE + first) * WIDE + second;
        }

        private void choose(int station, int first, int second, int from, int to) {
            int straight = low[station] + first - 2 * (low[station + 1] + second) + low[station + 2];
            long least = BENT_BEYOND;
            int best = from;
            for (int third = from; third <= to; third++) {
                long bent = straight + third;
                long sum = bent * bent + squaresBehind[second * WIDE + third];
                if (sum < least) {
                    least = sum;
                    best = third;
                }
            }
            squaresHere[first * WIDE + second] = least;
            bestBehind[pairOf(station, first, second)] = (byte) best;
        }

        private void follow(int strake) {
            long least = BENT_BEYOND;
            int first = 0;
            int second = 0;
            for (int i = 0; i < wide(0); i++) {
                for (int j = 0; j < wide(1); j++) {
                    if (squaresBehind[i * WIDE + j] < least) {
                        least = squaresBehind[i * WIDE + j];
                        first = i;
                        second = j;
                    }
                }
            }
            squares[strake] = least;
            for (int station = 0; station < ship.stations; station++) {
                line[strake * STATIONS_MOST + station] = low[station] + first;
                int third = station + 2 < ship.stations ? bestBehind[pairOf(station, first, second)] : 0;
                first = second;
                second = third;
            }
        }

        int beyond(int strake, int end) {
            int last = lineAt(strake, end == 0 ? 0 : ship.stations - 1);
            int inner = lineAt(strake, end == 0 ? 1 : ship.stations - 2);
            int less = inner - last;
            if (less <= 0) {
                return -2;
            }
            return last <= 0 ? 0 : (last + less - 1) / less;
        }
    }

    /** The lines of all strakes as a hull: what room is below a water line, and planks to build her anew. */
    private static final class Hull {
        private static final int NEVER = 1000;

        private final Ship ship;
        private final Lines lines;
        private final int[] lengthTo = new int[STATIONS_MOST];
        private final int[] needed = new int[STATIONS_MOST];
        private final boolean[] isBarred = new boolean[STATIONS_MOST];
        private final int[] meetingAt = new int[STATIONS_MOST];
        private int meetings;

        Hull(Ship ship, Lines lines) {
            this.ship = ship;
            this.lines = lines;
        }

        /** Are the lines of all strakes told, from the keel up to this one? */
        boolean isToldUpTo(int strake, int out) {
            if (!within(strake, 0, ship.strakes - 1)) {
                return false;
            }
            for (int i = 0; i <= strake; i++) {
                if (!lines.fits(i, out)) {
                    return false;
                }
            }
            return true;
        }

        long section(int station, int height, int line) {
            long sum = 0;
            for (int strake = 0; strake < line; strake++) {
                sum += breadth(strake, station) + breadth(strake + 1, station);
            }
            return sum * height;
        }

        private int breadth(int strake, int station) {
            return Math.max(0, lines.lineAt(strake, station));
        }

        long room(int height, int line, int apart) {
            long sum = 0;
            for (int station = 0; station + 1 < ship.stations; station++) {
                sum += section(station, height, line) + section(station + 1, height, line);
            }
            return sum * apart / 2;
        }

        int leastLine(int height, int weight, int apart) {
            for (int line = 0; line < ship.strakes; line++) {
                if (room(height, line, apart) >= weight) {
                    return line;
                }
            }
            return NOT_ENOUGH;
        }

        int whole(int strake, int apart) {
            measure(strake, apart);
            return ship.stands() ? lengthTo[ship.stations - 1] : 0;
        }

        private void measure(int strake, int apart) {
            for (int station = 1; station < ship.stations; station++) {
                int aside = lines.lineAt(strake, station) - lines.lineAt(strake, station - 1);
                lengthTo[station] = lengthTo[station - 1] + root(apart * apart + aside * aside);
            }
        }

        /** Lays all strakes from the keel up to this one by lines that are told: can it be? */
        boolean layUpTo(int strake, int most, int apart) {
            meetings = 0;
            for (int i = 0; i <= strake; i++) {
                measure(i, apart);
                barNearMeetings();
                reckonNeeded(most);
                if (needed[0] >= NEVER) {
                    return false;
                }
                joinPlanks(most);
            }
            return true;
        }

        private void barNearMeetings() {
            for (int station = 0; station < ship.stations; station++) {
                isBarred[station] = false;
                for (int i = 0; i < meetings; i++) {
                    if (Math.abs(meetingAt[i] - station) < 2) {
                        isBarred[station] = true;
                    }
                }
            }
        }

        private boolean reaches(int from, int to, int most) {
            return lengthTo[to] - lengthTo[from] <= most;
        }

        /** How many joints a strake needs behind a station, if planks meet there. */
        private void reckonNeeded(int most) {
            int last = ship.stations - 1;
            for (int station = last - 1; station >= 0; station--) {
                int fewest = reaches(station, last, most) ? 0 : NEVER;
                for (int joint = station + 1; joint < last && fewest > 0; joint++) {
                    if (!isBarred[joint] && reaches(station, joint, most)) {
                        fewest = Math.min(fewest, needed[joint] + 1);
                    }
                }
                needed[station] = fewest;
            }
        }

        private void joinPlanks(int most) {
            meetings = 0;
            int from = 0;
            for (int joint = 1; joint < ship.stations - 1 && needed[from] > 0; joint++) {
                if (!isBarred[joint] && reaches(from, joint, most) && needed[joint] == needed[from] - 1) {
                    meetingAt[meetings] = joint;
                    meetings++;
                    from = joint;
                }
            }
        }
    }

    /** Sizes of rivets: which are odd, and in how many ways as many could lie together by lot. */
    private static final class Sizes {
        private final Ship ship;
        private final int[] having = new int[SIZE_MOST + 1];
        private int sized;
        private int odd;
        private int sizedHere;
        private int oddHere;

        Sizes(Ship ship) {
            this.ship = ship;
        }

        int othersWith(int rivet) {
            int found = 0;
            for (int i = 0; i < RIVETS_MOST; i++) {
                found += i != rivet && ship.sizeOf[i] > 0 ? 1 : 0;
            }
            return found;
        }

        void sort(int strake, int much) {
            int usual = usual();
            sized = 0;
            odd = 0;
            sizedHere = 0;
            oddHere = 0;
            for (int station = 0; station < ship.stations; station++) {
                for (int i = 0; i < ship.strakes; i++) {
                    for (int side = 0; side < SIDES; side++) {
                        int rivet = ship.rivetAt(station, i, side);
                        if (rivet >= 0 && ship.sizeOf[rivet] > 0) {
                            put(Math.abs(ship.sizeOf[rivet] - usual) > much, i == strake);
                        }
                    }
                }
            }
        }

        private void put(boolean isOdd, boolean isHere) {
            sized++;
            odd += isOdd ? 1 : 0;
            sizedHere += isHere ? 1 : 0;
            oddHere += isOdd && isHere ? 1 : 0;
        }

        private int usual() {
            Arrays.fill(having, 0);
            for (int rivet = 0; rivet < RIVETS_MOST; rivet++) {
                having[held(ship.sizeOf[rivet], 0, SIZE_MOST)]++;
            }
            int usual = 1;
            for (int i = 2; i <= SIZE_MOST; i++) {
                if (having[i] > having[usual]) {
                    usual = i;
                }
            }
            return usual;
        }

        long ways() {
            return choices(sized, sizedHere);
        }

        long waysAsOdd() {
            long sum = 0;
            for (int i = oddHere; i <= Math.min(odd, sizedHere); i++) {
                sum += choices(odd, i) * choices(sized - odd, sizedHere - i);
            }
            return sum;
        }

        /** With sixty at most, no step of this leaves 64 bits. */
        private static long choices(int of, int taken) {
            if (taken < 0 || taken > of) {
                return 0;
            }
            int fewer = Math.min(taken, of - taken);
            long ways = 1;
            for (int i = 1; i <= fewer; i++) {
                ways = ways * (of - fewer + i) / i;
            }
            return ways;
        }
    }

    /** Tholes seen, not there, or not known. */
    private static final class Tholes {
        private static final int UNKNOWN = -1;

        private final Ship ship;
        private final int[] told = new int[STATIONS_MOST * SIDES];

        Tholes(Ship ship) {
            this.ship = ship;
        }

        void fall() {
            Arrays.fill(told, UNKNOWN);
        }

        void tell(int station, int side, int seen) {
            told[station * SIDES + side] = seen;
        }

        private int at(int station, int side) {
            return ship.isCut(station) ? UNKNOWN : told[station * SIDES + side];
        }

        private int pairsWithout(int oneThing, int another) {
            int found = 0;
            for (int station = 0; station < ship.stations; station++) {
                int left = at(station, 0);
                int right = at(station, 1);
                boolean has = left == oneThing || left == another || right == oneThing || right == another;
                found += has ? 0 : 1;
            }
            return found;
        }

        int pairsSeen() {
            return pairsWithout(0, UNKNOWN);
        }

        int pairsThatMayBe() {
            return pairsWithout(0, 0);
        }

        private int those(int least) {
            int found = 0;
            for (int station = 0; station < ship.stations; station++) {
                found += at(station, 0) >= least ? 1 : 0;
                found += at(station, 1) >= least ? 1 : 0;
            }
            return found;
        }

        int known() {
            return those(0);
        }

        int seen() {
            return those(1);
        }

        int above(int station, int side) {
            int thole = at(station, side);
            return thole == UNKNOWN ? seen() : thole;
        }

        int below(int station, int side) {
            return at(station, side) == UNKNOWN ? known() : 1;
        }
    }

    /** Phosphor by cells, and where a body of some shape left most of it. */
    private static final class Soil {
        private static final int COLUMNS = 12;
        private static final int ROWS = 6;

        private final int[] cells = new int[COLUMNS * ROWS];
        private int bestColumn;
        private int bestRow;
        private int most;
        private int rank;
        private int places;

        void put(int column, int row, int n) {
            cells[row * COLUMNS + column] = n;
        }

        void seek(int w, int h) {
            most = -1;
            rank = 0;
            places = 0;
            for (int row = 0; row + h <= ROWS; row++) {
                for (int column = 0; column + w <= COLUMNS; column++) {
                    weigh(column, row, amount(column, row, w, h));
                }
            }
        }

        private void weigh(int column, int row, int sum) {
            places++;
            if (sum > most) {
                most = sum;
                bestColumn = column;
                bestRow = row;
                rank = 0;
            }
            rank += sum == most ? 1 : 0;
        }

        private int amount(int column, int row, int w, int h) {
            int sum = 0;
            for (int i = row; i < row + h; i++) {
                for (int j = column; j < column + w; j++) {
                    sum += cells[i * COLUMNS + j];
                }
            }
            return sum;
        }
    }

    /** Stories by the signs that should show if they were true. */
    private static final class Stories {
        private static final int MOST = 6;
        private static final int SIGNS = 6;

        private final int[] thousandths = new int[MOST * SIGNS];
        private final boolean[] isTold = new boolean[MOST];
        private final int[] signs = new int[] {-1, -1, -1, -1, -1, -1};

        void tell(int k, int i, int n) {
            thousandths[k * SIGNS + i] = n;
            isTold[k] = true;
        }

        int told() {
            int found = 0;
            for (int k = 0; k < MOST; k++) {
                found += isTold[k] ? 1 : 0;
            }
            return found;
        }

        long product(int k) {
            long odds = 1;
            for (int i = 0; i < SIGNS; i++) {
                int showing = thousandths[k * SIGNS + i];
                if (signs[i] >= 0) {
                    odds *= signs[i] == 1 ? showing : THOUSAND - showing;
                }
            }
            return odds;
        }

        long together() {
            long sum = 0;
            for (int k = 0; k < MOST; k++) {
                sum += isTold[k] ? product(k) : 0;
            }
            return sum;
        }

        int partingMost() {
            int best = NONE;
            for (int i = 0; i < SIGNS; i++) {
                if (signs[i] < 0 && (best < 0 || parted(i) > parted(best))) {
                    best = i;
                }
            }
            return best;
        }

        private boolean counts(int k) {
            return isTold[k] && product(k) != 0;
        }

        int parted(int i) {
            int sum = 0;
            for (int k = 0; k < MOST; k++) {
                for (int j = 0; j < k; j++) {
                    if (counts(k) && counts(j)) {
                        sum += Math.abs(thousandths[k * SIGNS + i] - thousandths[j * SIGNS + i]);
                    }
                }
            }
            return sum;
        }
    }
}
