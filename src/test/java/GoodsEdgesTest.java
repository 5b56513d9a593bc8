/** The edges that the document names of goods (its part 2, promises 13 to 16), a sentence each. */
public final class GoodsEdgesTest extends Bench {
    public static void main(String[] args) {
        fromADoor();
        someCellOfIt();
        cellToCellBeside();
        throughNoShaftNoWell();
        throughNoGoods();
        canBeBroughtNow();
        broughtOrNot();
        allAreOut();
        noRow();
        rowOfOne();
        rowOfNine();
        rowInACorridor();
        lesserStandFirst();
        rowWithoutGoods();
        rowPastTheEdge();
        finish();
    }

    private static void fromADoor() {
        says("if some CELL of it can be reached from a DOOR");
        WorldHall x = hallOf(3, 3);
        plainStand(x, 0, 0);
        x.lay(0, 4);
        due("no door at all", x.can(0), 0);
        due("not brought", x.bring(0), 0);
        x.take(0);
        for (int c = 0; c < 9; c++) {
            if (x.cell(c, DOOR) == PLAIN) {
                x.lay(0, 4);
                due("a door on " + c, x.can(0), 1);
                x.take(0);
                x.cell(c, PLAIN);
            }
        }
        for (int door = 0; door < 2; door++) {
            WorldHall y = hallOf(5, 3);
            y.cell(0, DOOR);
            y.cell(14, DOOR);
            y.cell(door == 0 ? 9 : 5, WELL);
            y.cell(door == 0 ? 13 : 1, SHAFT);
            plainStand(y, 0, 0);
            y.lay(0, 7);
            due("one door of two is enough", y.can(0), 1);
        }
    }

    private static void someCellOfIt() {
        says("GOODS of a LAID STAND can be brought in if some CELL of it can be reached");
        // round the stand are shafts but for the door, which lies beside one corner of it
        int[] doors = {1, 4, 31, 34};
        for (int door : doors) {
            WorldHall x = hallOf(6, 6);
            sizedStand(x, 4, 4);
            for (int c = 0; c < 36; c++) {
                int column = c % 6;
                int line = c / 6;
                if (column == 0 || line == 0 || column == 5 || line == 5) {
                    x.cell(c, c == door ? DOOR : SHAFT);
                }
            }
            x.lay(0, 7);
            due("one cell is reached, from " + door, x.can(0), 1);
            due("brought", x.bring(0), 1);
        }
    }

    private static void cellToCellBeside() {
        says("CELL to CELL BESIDE it");
        WorldHall x = hallOf(4, 4);
        x.cell(0, DOOR);
        x.cell(1, SHAFT);
        x.cell(4, SHAFT);
        plainStand(x, 0, 0);
        x.lay(0, 5);
        due("not across the corner", x.can(0), 0);
        WorldHall y = hallOf(4, 4);
        y.cell(7, DOOR);
        y.cell(3, SHAFT);
        y.cell(6, SHAFT);
        y.cell(11, SHAFT);
        plainStand(y, 0, 0);
        y.lay(0, 8);
        due("not from a row's end to the next row's begin", y.can(0), 0);
        y.lay(0, 0);
        due("nor to its own row's begin", y.can(0), 0);
        WorldHall z = hallOf(4, 4);
        z.cell(1, DOOR);
        z.cell(0, SHAFT);
        z.cell(2, SHAFT);
        z.cell(5, SHAFT);
        plainStand(z, 0, 0);
        z.lay(0, 13);
        due("not from the north edge to the south edge", z.can(0), 0);
        WorldHall far = hallOf(8, 8);
        far.cell(0, DOOR);
        for (int line = 1; line < 8; line += 2) {
            for (int i = 0; i < 7; i++) {
                far.cell(8 * line + (line % 4 == 1 ? i : i + 1), SHAFT);
            }
        }
        plainStand(far, 0, 0);
        far.lay(0, 8 * 7);
        due("the longest way through the hall", far.can(0), 1);
    }

    private static void throughNoShaftNoWell() {
        says("through such as are no SHAFT, no WELL");
        for (int kind = PLAIN; kind <= WELL; kind++) {
            WorldHall x = hallOf(5, 3);
            x.cell(0, DOOR);
            x.cell(2, kind);
            x.cell(7, SHAFT);
            x.cell(12, WELL);
            plainStand(x, 0, 0);
            x.lay(0, 4);
            due("through kind " + kind, x.can(0), kind <= DOOR ? 1 : 0);
        }
    }

    private static void throughNoGoods() {
        says("and of no other STAND whose GOODS are in");
        WorldHall x = hallOf(3, 5);
        x.cell(1, DOOR);
        sizedStand(x, 3, 1);
        sizedStand(x, 3, 2);
        x.lay(0, 3);
        x.lay(1, 6);
        due("through a stand without goods", x.can(1), 1);
        x.bring(0);
        due("not through goods", x.can(1), 0);
        x.clear();
        due("goods are out", x.can(1), 1);
        x.bring(0);
        x.sell(0, 5);
        x.end(0);
        due("sold goods are in the way, too", x.can(1), 0);
        x.hand(0);
        due("handed over they are not", x.can(1), 1);
    }

    private static void canBeBroughtNow() {
        says("can be brought in now: 1, 0 (also if they are in). NONE (it is not LAID, too).");
        WorldHall x = withDoor();
        due("no stand", x.can(0), NONE);
        plainStand(x, 0, 0);
        due("not laid", x.can(0), NONE);
        x.lay(0, 24);
        due("it can", x.can(0), 1);
        due("asked, not brought", x.count(3), 0);
        x.bring(0);
        due("they are in", x.can(0), 0);
        due("the next number", x.can(1), NONE);
        due("the number ahead", x.can(-1), NONE);
        due("far", x.can(LEAST), NONE);
        due("far", x.can(GREATEST), NONE);
        x.clear();
        x.take(0);
        due("taken up", x.can(0), NONE);
    }

    private static void broughtOrNot() {
        says("They are: 1; 0 if they can't. NONE (likewise); STATE: they are in.");
        WorldHall x = hallOf(3, 3);
        due("no stand", x.bring(0), NONE);
        x.cell(1, DOOR);
        sizedStand(x, 3, 1);
        sizedStand(x, 1, 1);
        due("not laid", x.bring(0), NONE);
        x.lay(0, 3);
        x.lay(1, 7);
        due("they are", x.bring(0), 1);
        due("one", x.count(3), 1);
        due("they are in", x.bring(0), STATE);
        due("they can't", x.bring(1), 0);
        due("they are not in", x.about(1, 4), 0);
        due("one still", x.count(3), 1);
        due("the next number", x.bring(2), NONE);
        due("the number ahead", x.bring(-1), NONE);
    }

    private static void allAreOut() {
        says("All GOODS are out: how many STANDS had them in.");
        WorldHall x = hallOf(5, 5);
        for (int c = 0; c < 5; c++) {
            x.cell(c, DOOR);
        }
        due("no stands", x.clear(), 0);
        for (int s = 0; s < 9; s++) {
            plainStand(x, 0, 0);
            x.lay(s, 5 + 2 * s);
        }
        due("none in", x.clear(), 0);
        for (int s = 8; s >= 0; s--) {
            due("brought", x.bring(s), 1);
        }
        due("nine in", x.count(3), 9);
        due("nine had them in", x.clear(), 9);
        due("none in", x.count(3), 0);
        for (int s = 0; s < 9; s++) {
            due("out", x.about(s, 4), 0);
            due("laid still", x.about(s, 3), 5 + 2 * s);
        }
        due("none had them in", x.clear(), 0);
        x.bring(8);
        due("one had them in", x.clear(), 1);
    }

    private static void noRow() {
        says("NONE: also if there is none.");
        WorldHall x = withDoor();
        due("no stands", x.row(0), NONE);
        plainStand(x, 0, 0);
        plainStand(x, 1, 0);
        due("none laid", x.row(0), NONE);
        x.cell(8, SHAFT);
        x.cell(14, WELL);
        x.cell(3, SHAFT);
        x.lay(0, 5);
        x.lay(1, 9);
        due("one is reached from 4, and 4 from nowhere: no row", x.row(0), NONE);
        due("nor a second place", x.row(1), NONE);
        x.take(1);
        due("without that one there is a row", x.row(0), 0);
        WorldHall y = hallOf(3, 3);
        plainStand(y, 0, 0);
        y.lay(0, 4);
        due("no door, no row", y.row(0), NONE);
    }

    private static void rowOfOne() {
        says("The i-th STAND of THE ROW");
        WorldHall x = withDoor();
        plainStand(x, 0, 0);
        plainStand(x, 1, 0);
        x.lay(1, 12);
        due("the first", x.row(0), 1);
        due("no second", x.row(1), NONE);
        due("none ahead of the first", x.row(-1), NONE);
        due("far", x.row(LEAST), NONE);
        due("far", x.row(GREATEST), NONE);
        due("32 on", x.row(32), NONE);
    }

    /** Seven stands that shut the way one behind the other, and two in the corners beside the door. */
    private static WorldHall ofNine(int firstOfSeven, int firstCorner) {
        WorldHall x = hallOf(3, 8);
        x.cell(1, DOOR);
        for (int s = 0; s < 9; s++) {
            boolean corner = s == firstCorner || s == firstCorner + 1;
            sizedStand(x, corner ? 1 : 3, 1);
        }
        for (int i = 0; i < 7; i++) {
            x.lay(firstOfSeven + i, 3 * (i + 1));
        }
        x.lay(firstCorner, 0);
        x.lay(firstCorner + 1, 2);
        return x;
    }

    private static void rowOfNine() {
        says("an order of all LAID STANDS by which each can be brought in, one behind the other");
        WorldHall x = ofNine(0, 7);
        int[] order = {6, 5, 4, 3, 2, 1, 0, 7, 8};
        rowIs(x, order);
        for (int s : order) {
            due("brought in in this order", x.bring(s), 1);
        }
        due("all nine", x.count(3), 9);
        rowIs(ofNine(2, 0), new int[] {0, 1, 8, 7, 6, 5, 4, 3, 2});
    }

    /** One way leads past all nine: 7 in the north, 2 in the east. */
    private static void rowInACorridor() {
        says("THE ROW: an order of all LAID STANDS by which each can be brought in");
        for (int deepest = 0; deepest < 9; deepest += 8) {
            WorldHall x = hallOf(8, 3);
            x.cell(0, DOOR);
            for (int column = 0; column < 7; column++) {
                x.cell(8 + column, SHAFT);
            }
            int[] order = new int[9];
            for (int s = 0; s < 9; s++) {
                plainStand(x, 0, 0);
                int depth = Math.abs(deepest - s);
                order[depth] = s;
                x.lay(s, depth == 0 ? 23 : depth == 1 ? 15 : 9 - depth);
            }
            due("nine are laid", x.count(2), 9);
            rowIs(x, order);
        }
    }

    private static void rowIs(WorldHall x, int[] order) {
        for (int i = 0; i < order.length; i++) {
            due("place " + i, x.row(i), order[i]);
        }
        due("no place " + order.length, x.row(order.length), NONE);
        due("no place -1", x.row(-1), NONE);
    }

    private static void lesserStandFirst() {
        says("of several the one with the lesser STAND at the first place at which they differ");
        WorldHall free = hallOf(5, 5);
        for (int c = 0; c < 5; c++) {
            free.cell(c, DOOR);
        }
        for (int s = 0; s < 9; s++) {
            plainStand(free, 0, 0);
            free.lay(s, 23 - 2 * s);
        }
        rowIs(free, new int[] {0, 1, 2, 3, 4, 5, 6, 7, 8});
        // 0 shuts 2 in, 1 and 3 are free: 1 comes ahead of 2, 0 right behind 2
        WorldHall x = hallOf(3, 3);
        x.cell(1, DOOR);
        sizedStand(x, 3, 1);
        for (int s = 1; s < 4; s++) {
            plainStand(x, 0, 0);
        }
        x.lay(0, 3);
        x.lay(1, 0);
        x.lay(2, 7);
        x.lay(3, 2);
        rowIs(x, new int[] {1, 2, 0, 3});
    }

    private static void rowWithoutGoods() {
        says("(GOODS that are in do not count)");
        WorldHall x = ofNine(0, 7);
        x.bring(0);
        x.bring(7);
        due("2 can't be brought now", x.can(2), 0);
        rowIs(x, new int[] {6, 5, 4, 3, 2, 1, 0, 7, 8});
        due("asking changes nothing", x.count(3), 2);
    }

    private static void rowPastTheEdge() {
        says("THE ROW: an order of all LAID STANDS");
        WorldHall x = ofNine(0, 7);
        x.take(3);
        rowIs(x, new int[] {6, 5, 4, 2, 1, 0, 7, 8});
        x.bring(4);
        x.sell(4, 0);
        x.end(0);
        x.hand(4);
        rowIs(x, new int[] {6, 5, 2, 1, 0, 7, 8});
    }
}
