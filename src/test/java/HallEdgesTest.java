/** The edges that the document names of the hall and its stands (its part 1, promises 1 to 12), a sentence each. */
public final class HallEdgesTest extends Bench {
    public static void main(String[] args) {
        sizes();
        wrapsAround();
        allPlain();
        cellNumbers();
        doorOnTheEdge();
        cellKinds();
        bearing();
        aisleNumbers();
        nothingLaidYet();
        standNumbers();
        standSizes();
        nineAtMost();
        beyondTheHall();
        doorShaftWell();
        anothersCell();
        aisleIsFree();
        aisleCountsLaidOnesOfOtherClasses();
        bearsLess();
        wallNeedsTheEdge();
        engineNeedsAShaft();
        livingNeedsAWell();
        jointIsAlone();
        kinOfAJoint();
        theFirstThatIsSo();
        laidOnlyIfNothingHinders();
        movedIfItWasLaid();
        takenUp();
        aboutAStand();
        onACell();
        prices();
        betterOnlyIfLess();
        betterInOrder();
        betterPastHindrances();
        betterItselfAway();
        betterFiftyTimes();
        betterWithGoodsIn();
        finish();
    }

    /** How many columns: a stand of two rows in the north west has its second cell in column 0, row 1. */
    private static int columnsOf(WorldHall x) {
        int s = sizedStand(x, 1, 2);
        x.lay(s, 0);
        int c = 1;
        while (c < 9 && x.at(c) != s) {
            c++;
        }
        x.take(s);
        return c;
    }

    private static void sizes() {
        says("A HALL of 3 + (w modulo 6, from 0) columns, likewise rows, all plain.");
        for (int w = 0; w < 6; w++) {
            for (int h = 0; h < 6; h++) {
                WorldHall x = new WorldHall(w, h);
                int cells = (3 + w) * (3 + h);
                due("cells", x.count(0), cells);
                due("columns", columnsOf(x), 3 + w);
                due("the first cell", x.bears(0, 50), 50);
                due("ahead of the first cell", x.bears(-1, 50), NONE);
                due("the last cell", x.bears(cells - 1, 50), 50);
                due("behind the last cell", x.bears(cells, 50), NONE);
            }
        }
    }

    private static void wrapsAround() {
        says("A HALL of 3 + (w modulo 6, from 0) columns, likewise rows, all plain.");
        int[] given = {5, 6, 7, 11, 12, -1, -5, -6, -7, GREATEST, LEAST, LEAST + 1};
        int[] made = {8, 3, 4, 8, 3, 8, 4, 3, 8, 4, 7, 8};
        for (int i = 0; i < given.length; i++) {
            WorldHall wide = new WorldHall(given[i], 2);
            due("columns of w " + given[i], columnsOf(wide), made[i]);
            due("cells of w " + given[i], wide.count(0), made[i] * 5);
            WorldHall deep = new WorldHall(2, given[i]);
            due("columns beside h " + given[i], columnsOf(deep), 5);
            due("cells of h " + given[i], deep.count(0), made[i] * 5);
        }
    }

    private static void allPlain() {
        says("50 at first");
        WorldHall x = hallOf(8, 8);
        for (int c = 0; c < 64; c++) {
            due("plain", x.cell(c, PLAIN), PLAIN);
            due("bears", x.bears(c, 50), 50);
        }
        says("1 at first) free columns");
        due("aisle", x.aisle(1), 1);
    }

    private static void cellNumbers() {
        says("CELL number w times its row and its column");
        int[][] sizes = {{3, 8}, {8, 3}, {4, 5}};
        for (int[] size : sizes) {
            WorldHall x = hallOf(size[0], size[1]);
            plainStand(x, 0, 0);
            plainStand(x, 1, 0);
            x.lay(0, 0);
            for (int c = 1; c < size[0] * size[1]; c++) {
                due("laid on " + c, x.lay(1, c), 0);
                due("columns and rows from 0 to " + c, x.price(), c % size[0] + c / size[0]);
            }
        }
    }

    private static void doorOnTheEdge() {
        says("a DOOR (on the edge of THE HALL)");
        for (int w = 3; w <= 8; w++) {
            for (int h = 3; h <= 8; h++) {
                WorldHall x = hallOf(w, h);
                for (int c = 0; c < w * h; c++) {
                    int column = c % w;
                    int line = c / w;
                    boolean edge = column == 0 || line == 0 || column == w - 1 || line == h - 1;
                    x.cell(c, SHAFT);
                    due("door on " + c, x.cell(c, DOOR), edge ? SHAFT : BAD);
                    due("what it is then", x.cell(c, PLAIN), edge ? DOOR : SHAFT);
                }
            }
        }
    }

    private static void cellKinds() {
        says("A CELL is 0 plain, 1 a DOOR, 2 a SHAFT, 3 a WELL: what it was.");
        WorldHall x = hallOf(3, 3);
        for (int from = 0; from < 4; from++) {
            for (int to = 0; to < 4; to++) {
                x.cell(8, from);
                due("to " + to, x.cell(8, to), from);
                due("below", x.cell(8, -1), BAD);
                due("above", x.cell(8, 4), BAD);
                due("from " + from + " to " + to, x.cell(8, to), to);
                due("its neighbour stays", x.cell(7, PLAIN), PLAIN);
            }
        }
    }

    private static void bearing() {
        says("BEARS so much (0 .. 99; 50 at first)");
        WorldHall x = hallOf(3, 3);
        due("99", x.bears(4, 99), 50);
        due("100", x.bears(4, 100), BAD);
        due("99 it stayed", x.bears(4, 0), 99);
        due("-1", x.bears(4, -1), BAD);
        due("0 it stayed", x.bears(4, 1), 0);
        due("far below", x.bears(4, LEAST), BAD);
        due("far above", x.bears(4, GREATEST), BAD);
        due("1 it stayed", x.bears(4, 1), 1);
        for (int c = 0; c < 9; c++) {
            due("each has its own", x.bears(c, 10 + c), c == 4 ? 1 : 50);
        }
        for (int c = 0; c < 9; c++) {
            due("each keeps its own", x.bears(c, 0), 10 + c);
        }
    }

    private static void aisleNumbers() {
        says("fewer than AISLE (0 .. 3, 1 at first) free columns");
        WorldHall x = hallOf(3, 3);
        int was = 1;
        for (int n = 0; n <= 3; n++) {
            due("taken", x.aisle(n), was);
            due("-1", x.aisle(-1), BAD);
            due("4", x.aisle(4), BAD);
            due("far below", x.aisle(LEAST), BAD);
            due("far above", x.aisle(GREATEST), BAD);
            was = n;
        }
        due("3 it stayed", x.aisle(0), 3);
    }

    private static void nothingLaidYet() {
        says("STATE: some STAND is LAID.");
        WorldHall x = hallOf(4, 4);
        plainStand(x, 0, 0);
        plainStand(x, 1, 0);
        due("cell, none laid", x.cell(15, WELL), PLAIN);
        due("bears, none laid", x.bears(15, 7), 50);
        due("aisle, none laid", x.aisle(2), 1);
        x.lay(0, 0);
        x.lay(1, 1);
        for (int left = 2; left > 0; left--) {
            due("cell, some laid", x.cell(15, SHAFT), STATE);
            due("cell as it is, some laid", x.cell(15, WELL), STATE);
            due("bears, some laid", x.bears(15, 8), STATE);
            due("aisle, some laid", x.aisle(3), STATE);
            x.take(left - 1);
        }
        due("cell, none laid any more", x.cell(15, PLAIN), WELL);
        due("bears, none laid any more", x.bears(15, 9), 7);
        due("aisle, none laid any more", x.aisle(0), 2);
    }

    private static final int[] LEAST_STAND = {0, 0, 0, 1, 1, 0};
    private static final int[] GREATEST_STAND = {4, 7, 9, 4, 4, 99};

    private static int standOf(WorldHall x, int[] n) {
        return x.stand(n[0], n[1], n[2], n[3], n[4], n[5]);
    }

    private static int[] withNumber(int[] n, int i, int other) {
        int[] m = n.clone();
        m[i] = other;
        return m;
    }

    private static void standNumbers() {
        says("A STAND more: its number. BAD (any number); FULL.");
        String[] names = {"kind", "land", "class", "width", "depth", "weight"};
        for (int i = 0; i < 6; i++) {
            WorldHall x = hallOf(5, 5);
            int least = LEAST_STAND[i];
            int greatest = GREATEST_STAND[i];
            due(names[i] + " too small", standOf(x, withNumber(GREATEST_STAND, i, least - 1)), BAD);
            due(names[i] + " too large", standOf(x, withNumber(LEAST_STAND, i, greatest + 1)), BAD);
            due(names[i] + " far too small", standOf(x, withNumber(LEAST_STAND, i, LEAST)), BAD);
            due(names[i] + " far too large", standOf(x, withNumber(LEAST_STAND, i, GREATEST)), BAD);
            due("none was made", x.count(1), 0);
            due(names[i] + " least", standOf(x, withNumber(GREATEST_STAND, i, least)), 0);
            due(names[i] + " greatest", standOf(x, withNumber(LEAST_STAND, i, greatest)), 1);
            due("two were made", x.count(1), 2);
            for (int what = 0; what < 3; what++) {
                due("what " + what, x.about(0, what), what == i ? least : GREATEST_STAND[what]);
                due("what " + what, x.about(1, what), what == i ? greatest : LEAST_STAND[what]);
            }
        }
    }

    private static void standSizes() {
        says("with a width and a depth (1 .. 4 CELLS)");
        for (int width = 1; width <= 4; width++) {
            for (int depth = 1; depth <= 4; depth++) {
                WorldHall x = hallOf(6, 5);
                sizedStand(x, width, depth);
                due("laid", x.lay(0, 7), 0);
                for (int c = 0; c < 30; c++) {
                    int column = c % 6 - 1;
                    int line = c / 6 - 1;
                    boolean its = column >= 0 && column < width && line >= 0 && line < depth;
                    due(width + " by " + depth + " on " + c, x.at(c), its ? 0 : NONE);
                }
            }
        }
    }

    private static void nineAtMost() {
        says("STANDS are numbered from 0 on, 9 at most");
        WorldHall x = hallOf(3, 3);
        for (int s = 0; s < 9; s++) {
            due("not yet", x.about(s, 0), NONE);
            due("how many", x.count(1), s);
            due("its number", x.stand(s % 5, s % 8, s, 1, 1, 0), s);
        }
        due("a tenth", plainStand(x, 0, 0), FULL);
        due("a tenth again", plainStand(x, 0, 0), FULL);
        due("nine", x.count(1), 9);
        due("no tenth", x.about(9, 0), NONE);
        for (int s = 0; s < 9; s++) {
            due("kind", x.about(s, 0), s % 5);
            due("land", x.about(s, 1), s % 8);
            due("class", x.about(s, 2), s);
        }
        for (int s = 0; s < 9; s++) {
            due("taken up or not, it counts", x.take(s), NONE);
        }
        due("still a tenth", plainStand(x, 0, 0), FULL);
    }

    private static void beyondTheHall() {
        says("1 it goes beyond THE HALL");
        int[][] sizes = {{3, 3}, {3, 8}, {8, 3}, {5, 4}, {8, 8}};
        for (int[] size : sizes) {
            for (int width = 1; width <= 4; width++) {
                for (int depth = 1; depth <= 4; depth++) {
                    WorldHall x = hallOf(size[0], size[1]);
                    sizedStand(x, width, depth);
                    for (int c = 0; c < size[0] * size[1]; c++) {
                        boolean fits = c % size[0] + width <= size[0] && c / size[0] + depth <= size[1];
                        due(width + " by " + depth + " on " + c, x.hinders(0, c), fits ? 0 : 1);
                    }
                }
            }
        }
    }

    private static void doorShaftWell() {
        says("2 a CELL of it is a DOOR, SHAFT, WELL");
        for (int kind = DOOR; kind <= WELL; kind++) {
            for (int c = 0; c < 36; c++) {
                WorldHall x = hallOf(6, 6);
                if (x.cell(c, kind) == PLAIN) {
                    sizedStand(x, 4, 4);
                    int column = c % 6;
                    int line = c / 6;
                    due("kind " + kind + " on " + c, x.hinders(0, 0), column < 4 && line < 4 ? 2 : 0);
                    due("kind " + kind + " on " + c, x.hinders(0, 14), column > 1 && line > 1 ? 2 : 0);
                }
            }
        }
    }

    private static void anothersCell() {
        says("3 one is another STAND's");
        WorldHall x = hallOf(8, 8);
        sizedStand(x, 2, 3);
        sizedStand(x, 3, 2);
        x.lay(0, 8 * 3 + 3);
        for (int c = 0; c < 64; c++) {
            int column = c % 8;
            int line = c / 8;
            boolean beyond = column > 5 || line > 6;
            boolean shared = column > 0 && column < 5 && line > 1 && line < 6;
            due("on " + c, x.hinders(1, c), beyond ? 1 : shared ? 3 : 0);
        }
        x.take(0);
        due("it is taken up", x.hinders(1, 8 * 3 + 3), 0);
    }

    private static void aisleIsFree() {
        says("there are fewer than AISLE (0 .. 3, 1 at first) free columns, and fewer than AISLE free rows, too");
        for (int n = 0; n <= 3; n++) {
            WorldHall x = hallOf(8, 8);
            x.aisle(n);
            plainStand(x, 0, 0);
            plainStand(x, 1, 1);
            for (int free = 0; free <= 3; free++) {
                int near = free < n ? 4 : 0;
                x.lay(0, 0);
                due(free + " columns in the east, aisle " + n, x.hinders(1, 1 + free), near);
                due(free + " rows in the south, aisle " + n, x.hinders(1, 8 * (1 + free)), near);
                due(free + " of both, aisle " + n, x.hinders(1, 9 * (1 + free)), near);
                due(free + " columns, 3 rows, aisle " + n, x.hinders(1, 8 * 4 + 1 + free), 0);
                x.lay(0, 63);
                due(free + " columns in the west, aisle " + n, x.hinders(1, 63 - 1 - free), near);
                due(free + " rows in the north, aisle " + n, x.hinders(1, 63 - 8 * (1 + free)), near);
                due(free + " rows, 3 columns, aisle " + n, x.hinders(1, 63 - 8 * (1 + free) - 4), 0);
            }
        }
    }

    private static void aisleCountsLaidOnesOfOtherClasses() {
        says("between it and one of another CLASS");
        WorldHall x = hallOf(8, 8);
        x.aisle(3);
        plainStand(x, 0, 0);
        plainStand(x, 0, 0);
        plainStand(x, 0, 1);
        due("one that is not laid", x.hinders(1, 0), 0);
        x.lay(0, 0);
        due("one of its class", x.lay(1, 1), 0);
        due("it itself", x.hinders(1, 2), 0);
        due("the first is too near", x.hinders(2, 3 * 8), 4);
        due("both are too near", x.hinders(2, 3), 4);
        due("the second alone is too near", x.hinders(2, 4), 4);
        due("none is too near", x.hinders(2, 5), 0);
        x.take(1);
        due("the second is taken up", x.hinders(2, 4), 0);
    }

    private static void bearsLess() {
        says("5 a CELL of it BEARS less than its WEIGHT");
        int[] weights = {0, 1, 50, 98, 99};
        for (int weight : weights) {
            WorldHall x = hallOf(3, 3);
            x.stand(PLAIN, 0, 0, 1, 1, weight);
            for (int much = Math.max(0, weight - 1); much <= Math.min(99, weight + 1); much++) {
                x.bears(4, much);
                due("weight " + weight + " on " + much, x.hinders(0, 4), much < weight ? 5 : 0);
            }
        }
        for (int c = 0; c < 36; c++) {
            WorldHall x = hallOf(6, 6);
            x.bears(c, 49);
            x.stand(PLAIN, 0, 0, 4, 4, 50);
            int column = c % 6;
            int line = c / 6;
            boolean its = column > 0 && column < 5 && line > 0 && line < 5;
            due("on each cell, " + c, x.hinders(0, 7), its ? 5 : 0);
        }
    }

    private static void wallNeedsTheEdge() {
        says("1 WALL: some CELL of it lies on the edge of THE HALL");
        for (int size = 1; size <= 4; size++) {
            WorldHall x = hallOf(7, 6);
            x.stand(WALL, 0, 0, size, size, 0);
            for (int c = 0; c < 42; c++) {
                int column = c % 7;
                int line = c / 7;
                boolean fits = column + size <= 7 && line + size <= 6;
                boolean edge = column == 0 || line == 0 || column + size == 7 || line + size == 6;
                due("size " + size + " on " + c, x.hinders(0, c), !fits ? 1 : edge ? 0 : 6);
            }
        }
    }

    /** A stand of 2 by 1 with its need in the middle of the hall, and with what is not its need. */
    private static void needsBeside(int kind, int need, int other) {
        WorldHall x = hallOf(7, 5);
        x.stand(kind, 0, 0, 2, 1, 0);
        x.cell(17, need);
        for (int c = 0; c < 35; c++) {
            boolean fits = c % 7 < 6;
            boolean on = c == 16 || c == 17;
            boolean near = c == 9 || c == 10 || c == 15 || c == 18 || c == 23 || c == 24;
            due("kind " + kind + " on " + c, x.hinders(0, c), !fits ? 1 : on ? 2 : near ? 0 : 6);
        }
        x.cell(17, other);
        due("beside another kind of cell", x.hinders(0, 15), 6);
        x.cell(17, PLAIN);
        x.cell(21, need);
        due("the row's end is not beside the next row's begin", x.hinders(0, 19), 6);
        x.cell(21, PLAIN);
        x.cell(20, need);
        due("nor the row's begin beside the end of the row ahead", x.hinders(0, 21), 6);
        x.cell(20, DOOR);
        due("a door is no need", x.hinders(0, 18), 6);
        x.cell(20, PLAIN);
        x.cell(34, need);
        due("the last cell of the hall", x.hinders(0, 32), 0);
        due("the south edge is not beside the north edge", x.hinders(0, 5), 6);
        x.cell(34, PLAIN);
        x.cell(0, need);
        due("the first cell of the hall", x.hinders(0, 1), 0);
        due("the north edge is not beside the south edge", x.hinders(0, 28), 6);
        x.cell(0, PLAIN);
        due("nothing to lie beside", x.hinders(0, 1), 6);
    }

    private static void engineNeedsAShaft() {
        says("2 ENGINE: some CELL of it lies BESIDE a SHAFT");
        needsBeside(ENGINE, SHAFT, WELL);
    }

    private static void livingNeedsAWell() {
        says("3 LIVING: .. BESIDE a WELL");
        needsBeside(LIVING, WELL, SHAFT);
    }

    private static void jointIsAlone() {
        says("(Of JOINT ones 6: another one of its LAND and CLASS is LAID.)");
        for (int kind = 0; kind <= 4; kind++) {
            WorldHall x = hallOf(5, 5);
            x.aisle(0);
            x.cell(5, SHAFT);
            x.cell(6, WELL);
            x.stand(JOINT, 3, 4, 1, 1, 0);
            x.stand(kind, 3, 4, 1, 1, 0);
            x.stand(kind, 3, 5, 1, 1, 0);
            x.stand(kind, 2, 4, 1, 1, 0);
            int by = kind == LIVING ? 1 : 0;
            due("nothing laid", x.hinders(0, 24), 0);
            due("of its class alone", x.lay(3, by), 0);
            due("of another land", x.hinders(0, 24), 0);
            x.take(3);
            due("of its land alone", x.lay(2, by), 0);
            due("of another class", x.hinders(0, 24), 0);
            x.take(2);
            due("of both", x.lay(1, by), 0);
            due("of its land and class, kind " + kind, x.hinders(0, 24), 6);
            x.take(1);
            due("it is taken up", x.hinders(0, 24), 0);
        }
    }

    private static void kinOfAJoint() {
        says("7 another one, a JOINT, of its LAND and CLASS is LAID.");
        for (int kind = 0; kind <= 4; kind++) {
            WorldHall x = hallOf(5, 5);
            x.aisle(0);
            x.cell(18, SHAFT);
            x.cell(22, WELL);
            x.stand(JOINT, 3, 4, 1, 1, 0);
            x.stand(kind, 3, 4, 1, 1, 0);
            x.stand(kind, 3, 5, 1, 1, 0);
            x.stand(kind, 2, 4, 1, 1, 0);
            due("the joint is not laid", x.hinders(1, 23), 0);
            due("the joint is laid", x.lay(0, 0), 0);
            due("kin, kind " + kind, x.hinders(1, 23), kind == JOINT ? 6 : 7);
            due("of another class", x.hinders(2, 23), 0);
            due("of another land", x.hinders(3, 23), 0);
            due("the joint itself may be moved", x.lay(0, 1), 0);
            x.take(0);
            due("the joint is taken up", x.hinders(1, 23), 0);
        }
    }

    /**
     * An engine stand of 2 by 2 with all sets of hindrances at once. In each set: does it go beyond the hall,
     * is there a well, another's stand, one of another class, a weak cell, no shaft beside it, a joint.
     */
    private static void theFirstThatIsSo() {
        says("What HINDERS a STAND with its first CELL there, the first that is so");
        for (int set = 0; set < 128; set++) {
            int c = has(set, 1) ? 31 : 27;
            WorldHall x = hindered(set, c);
            int want = set == 0 ? 0 : Integer.numberOfTrailingZeros(set) + 1;
            due("hinders, set " + set, x.hinders(0, c), want);
            due("lay, set " + set, x.lay(0, c), want);
            due("laid or not, set " + set, x.about(0, 3), set == 0 ? c : NONE);
        }
    }

    private static boolean has(int set, int hindrance) {
        return (set >> hindrance - 1 & 1) != 0;
    }

    private static WorldHall hindered(int set, int c) {
        WorldHall x = hallOf(8, 8);
        x.stand(ENGINE, 0, 0, 2, 2, 10);
        x.stand(PLAIN, 1, 0, 1, 1, 0);
        x.stand(PLAIN, 0, 1, 1, 1, 0);
        x.stand(JOINT, 0, 0, 1, 1, 0);
        if (has(set, 2)) {
            x.cell(c + 8, WELL);
        }
        x.bears(c, has(set, 5) ? 9 : 10);
        x.cell(c - 1, has(set, 6) ? PLAIN : SHAFT);
        int[] places = {c, c + 16, 0};
        int[] hindrances = {3, 4, 7};
        for (int i = 0; i < 3; i++) {
            if (has(set, hindrances[i])) {
                due("made ready, set " + set, x.lay(i + 1, places[i]), 0);
            }
        }
        return x;
    }

    private static void laidOnlyIfNothingHinders() {
        says("It is LAID there, if nothing HINDERS it");
        WorldHall x = hallOf(3, 3);
        x.stand(PLAIN, 0, 0, 3, 3, 50);
        for (int c = 1; c < 9; c++) {
            due("beyond", x.lay(0, c), 1);
        }
        due("none is laid", x.count(2), 0);
        due("the whole hall", x.lay(0, 0), 0);
        due("one is laid", x.count(2), 1);
        for (int c = 0; c < 9; c++) {
            due("on it", x.at(c), 0);
        }
        plainStand(x, 1, 0);
        for (int c = 0; c < 9; c++) {
            due("no room", x.lay(1, c), 3);
        }
        due("one is laid still", x.count(2), 1);
    }

    private static void movedIfItWasLaid() {
        says("(moved, if it was LAID)");
        WorldHall x = hallOf(5, 5);
        sizedStand(x, 2, 2);
        sizedStand(x, 1, 1);
        x.lay(0, 0);
        x.lay(1, 24);
        due("over its own cells", x.lay(0, 6), 0);
        int[] left = {0, 1, 5};
        for (int c : left) {
            due("left", x.at(c), NONE);
        }
        int[] taken = {6, 7, 11, 12};
        for (int c : taken) {
            due("taken", x.at(c), 0);
        }
        due("where it lies", x.lay(0, 6), 0);
        due("hindered, it stays", x.lay(0, 18), 3);
        due("beyond, it stays", x.lay(0, 4), 1);
        due("its first cell", x.about(0, 3), 6);
        due("two are laid", x.count(2), 2);
    }

    private static void takenUp() {
        says("It is taken up: where it lay. NONE (it is not LAID, too); STATE: its GOODS are in.");
        WorldHall x = hallOf(3, 3);
        x.cell(8, DOOR);
        due("no stand", x.take(0), NONE);
        plainStand(x, 0, 0);
        due("not laid", x.take(0), NONE);
        x.lay(0, 0);
        due("there is no other", x.take(1), NONE);
        due("nor one ahead", x.take(-1), NONE);
        due("from the first cell", x.take(0), 0);
        due("not twice", x.take(0), NONE);
        x.lay(0, 7);
        due("brought", x.bring(0), 1);
        due("goods are in", x.take(0), STATE);
        due("it lies there still", x.about(0, 3), 7);
        due("goods are in still", x.about(0, 4), 1);
        x.clear();
        due("from the last but one", x.take(0), 7);
    }

    private static void aboutAStand() {
        says("4 whether its GOODS are in (1, 0), 5 to whom it is SOLD (NONE), 6 how many MARKS it has. NONE.");
        WorldHall x = hallOf(3, 3);
        due("no stand", x.about(0, 0), NONE);
        plainStand(x, 0, 0);
        due("what below", x.about(0, -1), NONE);
        due("what above", x.about(0, 7), NONE);
        due("what far below", x.about(0, LEAST), NONE);
        due("what far above", x.about(0, GREATEST), NONE);
        due("the last what", x.about(0, 6), 0);
        due("stand above", x.about(1, 0), NONE);
        due("stand below", x.about(-1, 0), NONE);
        x.lay(0, 0);
        due("laid on cell 0", x.about(0, 3), 0);
        x.juror(1, 0);
        x.juror(2, 0);
        x.mark(0, 0, 0, 999);
        due("a mark", x.about(0, 6), 1);
        x.mark(0, 0, 1, 999);
        due("a newer one is no more", x.about(0, 6), 1);
        x.mark(1, 0, 0, 0);
        due("two marks", x.about(0, 6), 2);
    }

    private static void onACell() {
        says("The STAND on a CELL. NONE.");
        WorldHall x = hallOf(4, 3);
        plainStand(x, 0, 0);
        plainStand(x, 1, 0);
        x.lay(0, 0);
        x.lay(1, 11);
        due("the first cell", x.at(0), 0);
        due("the last cell", x.at(11), 1);
        due("behind it", x.at(12), NONE);
        due("ahead of the first", x.at(-1), NONE);
        due("64 on", x.at(64), NONE);
        due("far", x.at(LEAST), NONE);
        due("far", x.at(GREATEST), NONE);
        due("no stand there", x.at(1), NONE);
    }

    private static void prices() {
        says("once if they are of one CLASS, and once more if of one LAND");
        int[] of = {0, 0, 1, 1};
        int[] land = {0, 1, 0, 1};
        for (int i = 0; i < 4; i++) {
            WorldHall x = hallOf(8, 8);
            plainStand(x, 0, 0);
            plainStand(x, land[i], of[i]);
            due("none laid", x.price(), 0);
            x.lay(0, 63);
            due("one laid", x.price(), 0);
            x.lay(1, 0);
            int times = (of[i] == 0 ? 1 : 0) + (land[i] == 0 ? 1 : 0);
            due("two laid, " + times + " times", x.price(), 14 * times);
        }
        WorldHall x = hallOf(3, 3);
        for (int s = 0; s < 9; s++) {
            plainStand(x, 0, 0);
            x.lay(s, s);
        }
        // in columns 18 pairs are 1 apart and 9 are 2 apart, in rows as many, and all of it counts twice
        due("all nine of one land and class", x.price(), 2 * 2 * (18 + 9 * 2));
    }

    private static void betterOnlyIfLess() {
        says("by which PRICE is less, is done");
        WorldHall x = hallOf(3, 3);
        plainStand(x, 0, 0);
        plainStand(x, 1, 0);
        due("no stand is laid", x.better(), 0);
        x.lay(0, 4);
        due("one is laid", x.better(), 0);
        x.lay(1, 5);
        due("no price is less than 1", x.better(), 0);
        due("it stays", x.about(0, 3), 4);
        due("it stays", x.about(1, 3), 5);
        x.lay(1, 8);
        due("2 to 1", x.better(), 1);
        due("the first stand to the first cell of price 1", x.about(0, 3), 5);
        WorldHall y = hallOf(3, 3);
        plainStand(y, 0, 0);
        plainStand(y, 1, 1);
        y.lay(0, 0);
        y.lay(1, 8);
        due("without a price nothing is less", y.better(), 0);
        due("it stays", y.about(0, 3), 0);
    }

    private static void betterInOrder() {
        says("the first MOVE (by STANDS, then CELLS) of a LAID STAND");
        WorldHall x = hallOf(8, 8);
        plainStand(x, 5, 9);
        plainStand(x, 0, 0);
        plainStand(x, 1, 0);
        x.lay(1, 6);
        x.lay(2, 0);
        due("6, 5, 4 and so on would be as good: cell 1 comes first", x.better(), 1);
        due("stand 1 moves", x.about(1, 3), 1);
        due("stand 2 stays", x.about(2, 3), 0);
        due("stand 0 is not laid", x.about(0, 3), NONE);
        x.lay(1, 0);
        x.lay(2, 17);
        x.lay(1, 16 + 7);
        due("from 23 towards 17: 1 first, then nearer", x.better(), 3);
        due("stand 1 lies in the north of it", x.about(1, 3), 9);
        due("stand 2 stays", x.about(2, 3), 17);
    }

    private static void betterPastHindrances() {
        says("to another first CELL where nothing HINDERS it (it itself away)");
        WorldHall x = hallOf(5, 3);
        x.cell(1, SHAFT);
        x.cell(6, WELL);
        x.bears(2, 4);
        x.stand(PLAIN, 0, 0, 1, 1, 5);
        x.stand(PLAIN, 1, 0, 1, 1, 0);
        x.lay(0, 4);
        x.lay(1, 0);
        due("past shaft, well and weak cell: 3, then 5", x.better(), 2);
        due("it lies on 5", x.about(0, 3), 5);
    }

    private static void betterItselfAway() {
        says("(it itself away) by which PRICE is less");
        WorldHall x = hallOf(3, 3);
        sizedStand(x, 2, 2);
        x.stand(PLAIN, 1, 0, 1, 1, 0);
        x.lay(0, 4);
        x.lay(1, 0);
        due("over its own cells", x.better(), 1);
        due("it lies on 1", x.about(0, 3), 1);
        due("its last cell", x.at(5), 0);
        due("it has left this", x.at(8), NONE);
    }

    private static void betterFiftyTimes() {
        says("50 times at most");
        WorldHall x = hallOf(8, 8);
        int[][] stands = {{1, 1, 2, 50}, {2, 1, 2, 39}, {1, 1, 1, 55}, {2, 1, 1, 32}, {1, 1, 2, 36}, {1, 2, 2, 14},
            {1, 2, 2, 33}, {1, 2, 2, 8}, {0, 1, 1, 37}};
        for (int s = 0; s < stands.length; s++) {
            x.stand(PLAIN, stands[s][0], 0, stands[s][1], stands[s][2], 0);
            due("laid", x.lay(s, stands[s][3]), 0);
        }
        int before = x.price();
        due("the fiftieth is done, no more", x.better(), 50);
        due("each made it cheaper", before - x.price() >= 50 ? 1 : 0, 1);
        due("the fifty-first is left", x.better(), 1);
        due("none is left", x.better(), 0);
    }

    private static void betterWithGoodsIn() {
        says("TO BETTER: how many MOVES. STATE: some GOODS are in.");
        WorldHall x = withDoor();
        for (int s = 0; s < 3; s++) {
            plainStand(x, s, 0);
        }
        x.lay(0, 4);
        x.lay(1, 20);
        x.lay(2, 24);
        for (int s = 0; s < 3; s++) {
            x.bring(s);
            due("goods of one are in", x.better(), STATE);
            due("nothing was moved", x.price(), 16);
            x.clear();
        }
        due("no goods are in", x.better() > 0 ? 1 : 0, 1);
    }
}
