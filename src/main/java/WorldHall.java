/** A hall for the goods of all lands. What each call promises stands in the document, by number. */
public final class WorldHall {
    public static final int NONE = -1, BAD = -2, STATE = -3, FULL = -4;

    private static final int NO_SUCH_MARK = -5;
    private static final int FAULT_AT_START = -10;
    private static final int LAST_DAY = 999;

    private final Floor floor;
    private final Plan plan;
    private final Goods goods;
    private final Tape tape;
    private final Texts medals;
    private final Texts days;
    private final Jury jury;
    private final Gate gate;
    private final Lost lost;
    private int endDay;

    public WorldHall(int w, int h) {
        floor = new Floor(3 + Math.floorMod(w, 6), 3 + Math.floorMod(h, 6));
        plan = new Plan(floor);
        goods = new Goods(floor, plan);
        tape = new Tape();
        medals = new Texts();
        days = new Texts();
        jury = new Jury();
        gate = new Gate();
        lost = new Lost();
        endDay = 180;
    }

    // ---- the hall

    public int cell(int c, int what) {
        if (!floor.has(c)) {
            return NONE;
        }
        if (!within(what, Floor.PLAIN, Floor.WELL) || what == Floor.DOOR && !floor.onEdge(c)) {
            return BAD;
        }
        if (plan.laidOnes() > 0) {
            return STATE;
        }
        int was = floor.kindOf(c);
        floor.setKind(c, what);
        return was;
    }

    public int bears(int c, int much) {
        if (!floor.has(c)) {
            return NONE;
        }
        if (!within(much, 0, 99)) {
            return BAD;
        }
        if (plan.laidOnes() > 0) {
            return STATE;
        }
        int was = floor.strengths[c];
        floor.strengths[c] = much;
        return was;
    }

    public int aisle(int n) {
        if (!within(n, 0, 3)) {
            return BAD;
        }
        if (plan.laidOnes() > 0) {
            return STATE;
        }
        int was = plan.gap;
        plan.gap = n;
        return was;
    }

    public int stand(int kind, int land, int of, int width, int depth, int weight) {
        if (!within(kind, Stand.SIMPLE, Stand.JOINT) || !isLand(land) || !isClass(of)
                || !within(width, 1, 4) || !within(depth, 1, 4) || !within(weight, 0, 99)) {
            return BAD;
        }
        if (plan.stands >= Plan.MOST_STANDS) {
            return FULL;
        }
        return plan.add(new Stand(kind, land, of, width, depth, weight));
    }

    public int hinders(int s, int c) {
        Stand one = plan.find(s);
        if (one == null || !floor.has(c)) {
            return NONE;
        }
        return plan.hindrance(one, c);
    }

    public int lay(int s, int c) {
        Stand one = plan.find(s);
        if (one == null || !floor.has(c)) {
            return NONE;
        }
        if (one.goodsIn) {
            return STATE;
        }
        int hindrance = plan.hindrance(one, c);
        if (hindrance == 0) {
            plan.put(one, c);
        }
        return hindrance;
    }

    public int take(int s) {
        Stand one = plan.find(s);
        if (one == null || !one.isLaid()) {
            return NONE;
        }
        if (one.goodsIn) {
            return STATE;
        }
        int was = one.first;
        one.lift();
        return was;
    }

    public int about(int s, int what) {
        Stand one = plan.find(s);
        if (one == null) {
            return NONE;
        }
        switch (what) {
            case 0: return one.kind;
            case 1: return one.land;
            case 2: return one.of;
            case 3: return one.first;
            case 4: return one.goodsIn ? 1 : 0;
            case 5: return one.buyer;
            case 6: return jury.marksOf(s);
            default: return NONE;
        }
    }

    public int at(int c) {
        return floor.has(c) ? plan.standOn(c) : NONE;
    }

    public int price() {
        return plan.wholePrice();
    }

    public int better() {
        if (plan.withGoods() > 0) {
            return STATE;
        }
        int moves = 0;
        while (moves < Plan.MOST_MOVES && plan.moveFirst()) {
            moves++;
        }
        return moves;
    }

    // ---- goods

    public int can(int s) {
        Stand one = plan.find(s);
        if (one == null || !one.isLaid()) {
            return NONE;
        }
        return goods.mayComeIn(one) ? 1 : 0;
    }

    public int bring(int s) {
        Stand one = plan.find(s);
        if (one == null || !one.isLaid()) {
            return NONE;
        }
        if (one.goodsIn) {
            return STATE;
        }
        one.goodsIn = goods.mayComeIn(one);
        return one.goodsIn ? 1 : 0;
    }

    public int clear() {
        return plan.emptyAll();
    }

    public int row(int i) {
        return goods.inOrder(i);
    }

    // ---- texts, juries, days

    public int feed(long w, int n) {
        if (!within(n, 1, 8)) {
            return BAD;
        }
        if (!tape.hasRoom(n)) {
            return FULL;
        }
        tape.add(w, n);
        return tape.size;
    }

    public int text(int sort, int day) {
        if (!within(sort, 0, 1) || !isDay(day)) {
            return BAD;
        }
        Texts texts = sort == 0 ? medals : days;
        Text next = texts.next();
        if (next == null) {
            return FULL;
        }
        next.begin(day);
        boolean read = sort == 0 ? tape.readMedals(next) : tape.readDays(next);
        int fault = tape.place;
        tape.empty();
        return read ? texts.keepNext() : FAULT_AT_START - fault;
    }

    public int juror(int land, int of) {
        if (!isLand(land) || !isClass(of)) {
            return BAD;
        }
        return jury.jurors >= Jury.MOST_JURORS ? FULL : jury.add(land, of);
    }

    public int mark(int juror, int s, int v, int day) {
        Stand one = plan.find(s);
        if (one == null || !jury.has(juror)) {
            return NO_SUCH_MARK;
        }
        if (!within(v, 0, 100) || !isDay(day)) {
            return BAD;
        }
        if (!jury.mayJudge(juror, one)) {
            return STATE;
        }
        return jury.give(juror, s, v, day);
    }

    public int mean(int s, int day) {
        return plan.find(s) == null ? NONE : jury.average(s, day);
    }

    public int medal(int s, int day) {
        if (plan.find(s) == null) {
            return NONE;
        }
        int average = jury.average(s, day);
        Text text = medals.inForce(day);
        return average == NONE || text == null ? 0 : text.medalFor(average);
    }

    public int cost(int day) {
        return day < 0 ? NONE : entryPrice(day);
    }

    // ---- minutes

    public int most(int n) {
        if (!within(n, 1, 20000)) {
            return BAD;
        }
        int was = gate.limit;
        gate.limit = n;
        return was;
    }

    public int minute(int come, int go) {
        if (!within(come, 0, 2000) || !within(go, 0, 2000)) {
            return BAD;
        }
        if (gate.minutes >= Gate.MOST_MINUTES) {
            return FULL;
        }
        gate.pass(come, go, entryPrice(gate.day));
        return gate.inside;
    }

    public int bell() {
        if (gate.day >= LAST_DAY) {
            return FULL;
        }
        gate.beginNextDay();
        return gate.day;
    }

    public int sight(int c, int minute) {
        if (!floor.has(c)) {
            return NONE;
        }
        if (!within(minute, 0, 10000) || !lost.isBehindLatest(minute) || !floor.isOpen(c)) {
            return BAD;
        }
        return lost.sights >= Lost.MOST_SIGHTS ? FULL : lost.add(c, minute);
    }

    public int canBe(int c, int minute) {
        if (!floor.has(c)) {
            return NONE;
        }
        int refusal = refusalOfSearch(minute);
        if (refusal != 0) {
            return refusal;
        }
        return (whereabouts(minute) & Floor.only(c)) != 0 ? 1 : 0;
    }

    public int places(int minute) {
        int refusal = refusalOfSearch(minute);
        return refusal != 0 ? refusal : Long.bitCount(whereabouts(minute));
    }

    public int found() {
        return lost.forget();
    }

    // ---- sales

    public int sell(int s, int who) {
        Stand one = plan.find(s);
        if (one == null) {
            return NONE;
        }
        if (!within(who, 0, 999)) {
            return BAD;
        }
        if (one.isSold() || !one.goodsIn) {
            return STATE;
        }
        one.buyer = who;
        return 0;
    }

    public int hand(int s) {
        Stand one = plan.find(s);
        if (one == null) {
            return NONE;
        }
        if (!one.isSold() || one.handedOver || gate.day < endDay) {
            return STATE;
        }
        one.handedOver = true;
        one.goodsIn = false;
        one.lift();
        return one.buyer;
    }

    public int end(int day) {
        if (!isDay(day)) {
            return BAD;
        }
        int was = endDay;
        endDay = day;
        return was;
    }

    public int count(int what) {
        switch (what) {
            case 0: return floor.size;
            case 1: return plan.stands;
            case 2: return plan.laidOnes();
            case 3: return plan.withGoods();
            case 4: return jury.jurors;
            case 5: return jury.allMarks();
            case 6: return gate.day;
            case 7: return gate.minutes;
            case 8: return gate.inside;
            case 9: return gate.outside;
            case 10: return gate.takingsOfDay;
            case 11: return gate.takingsOfAll;
            case 12: return tape.size;
            case 13: return plan.handedOver();
            default: return NONE;
        }
    }

    private static boolean within(int n, int least, int greatest) {
        return n >= least && n <= greatest;
    }

    private static boolean isLand(int land) {
        return within(land, 0, 7);
    }

    private static boolean isClass(int of) {
        return within(of, 0, 9);
    }

    private static boolean isDay(int day) {
        return within(day, 0, LAST_DAY);
    }

    private int entryPrice(int day) {
        Text text = days.inForce(day);
        return text == null ? 0 : text.priceOf(day);
    }

    private int refusalOfSearch(int minute) {
        if (lost.sights == 0) {
            return STATE;
        }
        return minute < lost.latestMinute ? BAD : 0;
    }

    /** The cells where the lost one can be; that of the latest sight stays one, whatever is on it. */
    private long whereabouts(int minute) {
        long free = floor.open() & ~plan.covered(null);
        return floor.spread(Floor.only(lost.latestCell), free, minute - lost.latestMinute);
    }

    /** The cells. Sets of them are longs, a bit for each: 8 by 8 cells just fill one. */
    private static final class Floor {
        static final int PLAIN = 0, DOOR = 1, SHAFT = 2, WELL = 3;
        private static final int KINDS = 4;

        private final int columns;
        private final int rows;
        private final int size;
        private final long westColumn;
        private final long eastColumn;
        private final long edge;
        private final long[] ofKind;
        private final int[] strengths;

        Floor(int columns, int rows) {
            this.columns = columns;
            this.rows = rows;
            size = columns * rows;
            ofKind = new long[KINDS];
            strengths = new int[size];
            long west = 0;
            long east = 0;
            long rim = 0;
            for (int c = 0; c < size; c++) {
                int column = c % columns;
                int line = c / columns;
                west |= column == 0 ? only(c) : 0;
                east |= column == columns - 1 ? only(c) : 0;
                rim |= line == 0 || line == rows - 1 ? only(c) : 0;
                ofKind[PLAIN] |= only(c);
                strengths[c] = 50;
            }
            westColumn = west;
            eastColumn = east;
            edge = rim | west | east;
        }

        static long only(int c) {
            return 1L << c;
        }

        boolean has(int c) {
            return c >= 0 && c < size;
        }

        int columnOf(int c) {
            return c % columns;
        }

        int lineOf(int c) {
            return c / columns;
        }

        boolean onEdge(int c) {
            return (edge & only(c)) != 0;
        }

        boolean isOpen(int c) {
            return (open() & only(c)) != 0;
        }

        int kindOf(int c) {
            for (int kind = DOOR; kind < KINDS; kind++) {
                if ((ofKind[kind] & only(c)) != 0) {
                    return kind;
                }
            }
            return PLAIN;
        }

        void setKind(int c, int what) {
            for (int kind = 0; kind < KINDS; kind++) {
                ofKind[kind] &= ~only(c);
            }
            ofKind[what] |= only(c);
        }

        /** The cells on which one can walk, if nothing stands there. */
        long open() {
            return ofKind[PLAIN] | ofKind[DOOR];
        }

        /** The cells of a stand with its first one at c; the empty set if it goes beyond the hall. */
        long area(int c, int width, int depth) {
            if (columnOf(c) + width > columns || lineOf(c) + depth > rows) {
                return 0;
            }
            long line = (1L << width) - 1;
            long cells = 0;
            for (int i = 0; i < depth; i++) {
                cells |= line << (c + i * columns);
            }
            return cells;
        }

        /** Those beside some cell of the set; bits beyond the hall may be in it, too. */
        long beside(long cells) {
            long northSouth = cells >>> columns | cells << columns;
            long eastWest = (cells & ~eastColumn) << 1 | (cells & ~westColumn) >>> 1;
            return northSouth | eastWest;
        }

        /** Where one can come in so many steps from some cells, these among them, through others. */
        long spread(long from, long through, int steps) {
            long come = from;
            // a way that goes over no cell twice is never longer than there are cells
            int enough = Math.min(steps, size);
            for (int i = 0; i < enough; i++) {
                long wider = come | beside(come) & through;
                if (wider == come) {
                    break;
                }
                come = wider;
            }
            return come;
        }

        boolean carries(long cells, int weight) {
            for (int c = 0; c < size; c++) {
                if ((cells & only(c)) != 0 && strengths[c] < weight) {
                    return false;
                }
            }
            return true;
        }
    }

    /** One stand: what it is, and how it is with it now. */
    private static final class Stand {
        static final int SIMPLE = 0, WALL = 1, ENGINE = 2, LIVING = 3, JOINT = 4;

        private final int kind;
        private final int land;
        private final int of;
        private final int width;
        private final int depth;
        private final int weight;
        private int first;
        private long cells;
        private boolean goodsIn;
        private int buyer;
        private boolean handedOver;

        Stand(int kind, int land, int of, int width, int depth, int weight) {
            this.kind = kind;
            this.land = land;
            this.of = of;
            this.width = width;
            this.depth = depth;
            this.weight = weight;
            first = NONE;
            buyer = NONE;
        }

        boolean isLaid() {
            return first != NONE;
        }

        boolean isSold() {
            return buyer != NONE;
        }

        void lift() {
            first = NONE;
            cells = 0;
        }

        boolean isAkin(Stand other) {
            return land == other.land && of == other.of;
        }

        /** How often the distance to the other one counts in the price. */
        int tiesTo(Stand other) {
            return (of == other.of ? 1 : 0) + (land == other.land ? 1 : 0);
        }
    }

    /** The stands and how they are laid on the floor. */
    private static final class Plan {
        static final int MOST_STANDS = 9;
        static final int MOST_MOVES = 50;

        private final Floor floor;
        private final Stand[] all;
        private int stands;
        private int gap;

        Plan(Floor floor) {
            this.floor = floor;
            all = new Stand[MOST_STANDS];
            gap = 1;
        }

        Stand find(int s) {
            return s >= 0 && s < stands ? all[s] : null;
        }

        int add(Stand one) {
            all[stands] = one;
            stands++;
            return stands - 1;
        }

        void put(Stand one, int c) {
            one.first = c;
            one.cells = floor.area(c, one.width, one.depth);
        }

        int laidOnes() {
            int laid = 0;
            for (int s = 0; s < stands; s++) {
                laid += all[s].isLaid() ? 1 : 0;
            }
            return laid;
        }

        int withGoods() {
            int with = 0;
            for (int s = 0; s < stands; s++) {
                with += all[s].goodsIn ? 1 : 0;
            }
            return with;
        }

        int handedOver() {
            int handed = 0;
            for (int s = 0; s < stands; s++) {
                handed += all[s].handedOver ? 1 : 0;
            }
            return handed;
        }

        int emptyAll() {
            int with = withGoods();
            for (int s = 0; s < stands; s++) {
                all[s].goodsIn = false;
            }
            return with;
        }

        int standOn(int c) {
            for (int s = 0; s < stands; s++) {
                if ((all[s].cells & Floor.only(c)) != 0) {
                    return s;
                }
            }
            return NONE;
        }

        /** The cells of all laid stands but that one. */
        long covered(Stand away) {
            long cells = 0;
            for (int s = 0; s < stands; s++) {
                cells |= all[s] != away ? all[s].cells : 0;
            }
            return cells;
        }

        /** The number of the first thing that hinders a stand there, 0 if nothing does. */
        int hindrance(Stand one, int c) {
            long cells = floor.area(c, one.width, one.depth);
            if (cells == 0) {
                return 1;
            }
            if ((cells & ~floor.ofKind[Floor.PLAIN]) != 0) {
                return 2;
            }
            if ((cells & covered(one)) != 0) {
                return 3;
            }
            if (isTooNear(one, c)) {
                return 4;
            }
            if (!floor.carries(cells, one.weight)) {
                return 5;
            }
            if (!hasItsNeed(one, cells)) {
                return 6;
            }
            return hasKinLaid(one, true) ? 7 : 0;
        }

        private boolean isTooNear(Stand one, int c) {
            for (int s = 0; s < stands; s++) {
                Stand other = all[s];
                if (other != one && other.isLaid() && other.of != one.of
                        && between(floor.columnOf(c), one.width, floor.columnOf(other.first), other.width) < gap
                        && between(floor.lineOf(c), one.depth, floor.lineOf(other.first), other.depth) < gap) {
                    return true;
                }
            }
            return false;
        }

        /** How many lines are free between two stretches; below 0 if they share some. */
        private static int between(int start, int length, int otherStart, int otherLength) {
            return Math.max(otherStart - start - length, start - otherStart - otherLength);
        }

        private boolean hasItsNeed(Stand one, long cells) {
            switch (one.kind) {
                case Stand.WALL: return (cells & floor.edge) != 0;
                case Stand.ENGINE: return (floor.beside(cells) & floor.ofKind[Floor.SHAFT]) != 0;
                case Stand.LIVING: return (floor.beside(cells) & floor.ofKind[Floor.WELL]) != 0;
                case Stand.JOINT: return !hasKinLaid(one, false);
                default: return true;
            }
        }

        private boolean hasKinLaid(Stand one, boolean jointOnly) {
            for (int s = 0; s < stands; s++) {
                Stand other = all[s];
                if (other != one && other.isLaid() && other.isAkin(one)
                        && (!jointOnly || other.kind == Stand.JOINT)) {
                    return true;
                }
            }
            return false;
        }

        /** What a stand with its first cell there has to do with the price. */
        private int shareAt(Stand one, int c) {
            int sum = 0;
            for (int s = 0; s < stands; s++) {
                Stand other = all[s];
                if (other != one && other.isLaid()) {
                    sum += distance(c, other.first) * one.tiesTo(other);
                }
            }
            return sum;
        }

        private int distance(int c, int d) {
            return Math.abs(floor.columnOf(c) - floor.columnOf(d)) + Math.abs(floor.lineOf(c) - floor.lineOf(d));
        }

        int wholePrice() {
            int twice = 0;
            for (int s = 0; s < stands; s++) {
                if (all[s].isLaid()) {
                    twice += shareAt(all[s], all[s].first);
                }
            }
            // each pair was met from both its sides
            return twice / 2;
        }

        /** The first move that makes it cheaper is done: whether there was one. */
        boolean moveFirst() {
            for (int s = 0; s < stands; s++) {
                int to = all[s].isLaid() ? cheaperCell(all[s]) : NONE;
                if (to != NONE) {
                    put(all[s], to);
                    return true;
                }
            }
            return false;
        }

        /** A move changes this stand's share of the price alone, so the shares are enough to compare. */
        private int cheaperCell(Stand one) {
            int now = shareAt(one, one.first);
            if (now == 0) {
                return NONE;
            }
            for (int c = 0; c < floor.size; c++) {
                if (shareAt(one, c) < now && hindrance(one, c) == 0) {
                    return c;
                }
            }
            return NONE;
        }
    }

    /** The ways by which goods come in. Sets of stands are ints, a bit for each. */
    private static final class Goods {
        private final Floor floor;
        private final Plan plan;

        Goods(Floor floor, Plan plan) {
            this.floor = floor;
            this.plan = plan;
        }

        boolean mayComeIn(Stand one) {
            return !one.goodsIn && isReached(one, stocked());
        }

        private int stocked() {
            int in = 0;
            for (int s = 0; s < plan.stands; s++) {
                in |= plan.all[s].goodsIn ? 1 << s : 0;
            }
            return in;
        }

        private int laid() {
            int set = 0;
            for (int s = 0; s < plan.stands; s++) {
                set |= plan.all[s].isLaid() ? 1 << s : 0;
            }
            return set;
        }

        private static boolean holds(int set, int s) {
            return (set & 1 << s) != 0;
        }

        /** Whether a way leads to a stand that is not in the set, when the goods of those in it are in. */
        private boolean isReached(Stand one, int in) {
            long free = floor.open();
            for (int s = 0; s < plan.stands; s++) {
                free &= holds(in, s) ? ~plan.all[s].cells : -1L;
            }
            return (floor.spread(floor.ofKind[Floor.DOOR], free, floor.size) & one.cells) != 0;
        }

        /** The stand at place i of the row, as if no goods were in. */
        int inOrder(int i) {
            int laid = laid();
            if (i < 0 || i >= Integer.bitCount(laid)) {
                return NONE;
            }
            int in = 0;
            int next = NONE;
            for (int place = 0; place <= i; place++) {
                next = firstThatLeavesARow(laid, in);
                if (next == NONE) {
                    return NONE;
                }
                in |= 1 << next;
            }
            return next;
        }

        private int firstThatLeavesARow(int laid, int in) {
            for (int s = 0; s < plan.stands; s++) {
                if (holds(laid & ~in, s) && isReached(plan.all[s], in) && canFollow(laid, in | 1 << s)) {
                    return s;
                }
            }
            return NONE;
        }

        /**
         * Whether all others can come in behind those in the set. The last places are given first: one
         * that is reached past all others can as well be the last, since with fewer goods in no way is lost.
         */
        private boolean canFollow(int laid, int in) {
            int rest = laid & ~in;
            for (int i = 0; i < Plan.MOST_STANDS && rest != 0; i++) {
                int before = rest;
                for (int s = 0; s < plan.stands; s++) {
                    int others = (in | rest) & ~(1 << s);
                    if (holds(rest, s) && isReached(plan.all[s], others)) {
                        rest &= ~(1 << s);
                    }
                }
                if (rest == before) {
                    return false;
                }
            }
            return rest == 0;
        }
    }

    /** A text that was read: numbers, each with what it is for (a medal; a weekday, or any other day). */
    private static final class Text {
        static final int ANY_DAY = -1;
        private static final int MOST_ENTRIES = 5;

        private final int[] keys;
        private final int[] numbers;
        private int entries;
        private int from;

        Text() {
            keys = new int[MOST_ENTRIES];
            numbers = new int[MOST_ENTRIES];
        }

        void begin(int day) {
            from = day;
            entries = 0;
        }

        void add(int key, int number) {
            if (entries < MOST_ENTRIES) {
                keys[entries] = key;
                numbers[entries] = number;
                entries++;
            }
        }

        int medalFor(int average) {
            for (int i = 0; i < entries; i++) {
                if (average >= numbers[i]) {
                    return keys[i];
                }
            }
            return 0;
        }

        int priceOf(int day) {
            int weekday = Math.floorMod(day, 7);
            for (int i = 0; i < entries; i++) {
                if (keys[i] == weekday || keys[i] == ANY_DAY) {
                    return numbers[i];
                }
            }
            return 0;
        }
    }

    /** The texts of one sort, in the order in which they were told. */
    private static final class Texts {
        private static final int MOST_TEXTS = 6;

        private final Text[] all;
        private int texts;

        Texts() {
            all = new Text[MOST_TEXTS];
            for (int i = 0; i < MOST_TEXTS; i++) {
                all[i] = new Text();
            }
        }

        /** The one to be read next, null if there is room for none; it counts from keepNext on. */
        Text next() {
            return texts < MOST_TEXTS ? all[texts] : null;
        }

        int keepNext() {
            texts++;
            return texts;
        }

        Text inForce(int day) {
            Text latest = null;
            for (int i = 0; i < texts; i++) {
                if (all[i].from <= day && (latest == null || all[i].from >= latest.from)) {
                    latest = all[i];
                }
            }
            return latest;
        }
    }

    /** The bytes that were fed, and the reading of them. When a reading fails, place is the fault. */
    private static final class Tape {
        private static final int MOST_BYTES = 120;
        private static final int MEDALS = 3;
        private static final int MOST_WEEKDAYS = 4;
        private static final int MOST_DIGITS = 3;

        private final byte[] bytes;
        private int size;
        private int place;

        Tape() {
            bytes = new byte[MOST_BYTES];
        }

        boolean hasRoom(int n) {
            return size + n <= MOST_BYTES;
        }

        void add(long w, int n) {
            for (int i = n - 1; i >= 0; i--) {
                bytes[size] = (byte) (w >>> 8 * i);
                size++;
            }
        }

        void empty() {
            size = 0;
        }

        boolean readMedals(Text into) {
            place = 0;
            int best = MEDALS;
            for (int i = 0; i < MEDALS; i++) {
                int medal = medalBegunHere(best);
                if (medal == 0 || !reads(nameOf(medal)) || !reads(" at ")) {
                    return false;
                }
                int number = readNumber();
                if (number == NONE) {
                    return false;
                }
                into.add(medal, number);
                if (isAtEnd()) {
                    return true;
                }
                best = medal - 1;
                if (best == 0 || !reads(",")) {
                    return false;
                }
            }
            return false;
        }

        boolean readDays(Text into) {
            place = 0;
            if (!reads("pay ")) {
                return false;
            }
            int number = readNumber();
            for (int i = 0; i < MOST_WEEKDAYS && number != NONE && !isAtEnd(); i++) {
                int weekday = reads(" on ") ? readWeekday() : NONE;
                if (weekday == NONE || !reads(",")) {
                    return false;
                }
                into.add(weekday, number);
                number = readNumber();
            }
            into.add(Text.ANY_DAY, number);
            return number != NONE && isAtEnd();
        }

        private static String nameOf(int medal) {
            switch (medal) {
                case 3: return "gold";
                case 2: return "silver";
                default: return "bronze";
            }
        }

        /** The names differ in their first letters, so one byte tells which one is begun; 0 if none is. */
        private int medalBegunHere(int best) {
            for (int medal = best; medal > 0; medal--) {
                if (!isAtEnd() && bytes[place] == nameOf(medal).charAt(0)) {
                    return medal;
                }
            }
            return 0;
        }

        private boolean isAtEnd() {
            return place >= size;
        }

        private boolean reads(String word) {
            for (int i = 0; i < word.length(); i++) {
                if (isAtEnd() || bytes[place] != word.charAt(i)) {
                    return false;
                }
                place++;
            }
            return true;
        }

        private boolean isDigitHere(char greatest) {
            return !isAtEnd() && bytes[place] >= '0' && bytes[place] <= greatest;
        }

        private int readNumber() {
            int number = NONE;
            for (int i = 0; i < MOST_DIGITS && isDigitHere('9'); i++) {
                number = Math.max(number, 0) * 10 + bytes[place] - '0';
                place++;
            }
            return number;
        }

        private int readWeekday() {
            if (!isDigitHere('6')) {
                return NONE;
            }
            place++;
            return bytes[place - 1] - '0';
        }
    }

    /** The jurors, and the mark of each for each stand. */
    private static final class Jury {
        static final int MOST_JURORS = 12;

        private final int[] lands;
        private final int[] classes;
        private final int[] marks;
        private final int[] markDays;
        private int jurors;

        Jury() {
            lands = new int[MOST_JURORS];
            classes = new int[MOST_JURORS];
            marks = new int[MOST_JURORS * Plan.MOST_STANDS];
            markDays = new int[MOST_JURORS * Plan.MOST_STANDS];
            for (int i = 0; i < marks.length; i++) {
                marks[i] = NONE;
            }
        }

        boolean has(int juror) {
            return juror >= 0 && juror < jurors;
        }

        int add(int land, int of) {
            lands[jurors] = land;
            classes[jurors] = of;
            jurors++;
            return jurors - 1;
        }

        boolean mayJudge(int juror, Stand one) {
            return lands[juror] != one.land && classes[juror] == one.of;
        }

        private static int slot(int juror, int s) {
            return juror * Plan.MOST_STANDS + s;
        }

        int give(int juror, int s, int v, int day) {
            int was = marks[slot(juror, s)];
            marks[slot(juror, s)] = v;
            markDays[slot(juror, s)] = day;
            return was;
        }

        int marksOf(int s) {
            int given = 0;
            for (int juror = 0; juror < jurors; juror++) {
                given += marks[slot(juror, s)] != NONE ? 1 : 0;
            }
            return given;
        }

        int allMarks() {
            int given = 0;
            for (int s = 0; s < Plan.MOST_STANDS; s++) {
                given += marksOf(s);
            }
            return given;
        }

        int average(int s, int day) {
            int sum = 0;
            int given = 0;
            for (int juror = 0; juror < jurors; juror++) {
                int i = slot(juror, s);
                if (marks[i] != NONE && markDays[i] <= day) {
                    sum += marks[i];
                    given++;
                }
            }
            return given < 2 ? NONE : sum / given;
        }
    }

    /** The visitors of the day, and what they paid. */
    private static final class Gate {
        static final int MOST_MINUTES = 600;

        private int limit;
        private int day;
        private int minutes;
        private int inside;
        private int outside;
        private int takingsOfDay;
        private int takingsOfAll;

        Gate() {
            limit = 1000;
        }

        /** All who enter in a minute pay the same, so those who waited need not be told from new ones. */
        void pass(int come, int go, int pay) {
            minutes++;
            inside -= Math.min(go, inside);
            outside += come;
            int enter = Math.min(outside, Math.max(0, limit - inside));
            outside -= enter;
            inside += enter;
            takingsOfDay += enter * pay;
            takingsOfAll += enter * pay;
        }

        void beginNextDay() {
            day++;
            minutes = 0;
            inside = 0;
            outside = 0;
            takingsOfDay = 0;
        }
    }

    /** The sights of the lost one. Only the latest tells where it can be, so only that is kept. */
    private static final class Lost {
        static final int MOST_SIGHTS = 10;

        private int sights;
        private int latestCell;
        private int latestMinute;

        boolean isBehindLatest(int minute) {
            return sights == 0 || minute > latestMinute;
        }

        int add(int c, int minute) {
            latestCell = c;
            latestMinute = minute;
            sights++;
            return sights;
        }

        int forget() {
            int were = sights;
            sights = 0;
            return were;
        }
    }
}
