/** For each promise of the document: ordinary calls, the edges that it names, and wrong inputs. */
public final class PromisesTest extends Bench {
    public static void main(String[] args) {
        newObject();
        cell();
        bears();
        aisle();
        stand();
        hindersByPlace();
        hindersByAisle();
        hindersByNeed();
        hindersByKin();
        lay();
        take();
        about();
        at();
        price();
        better();
        can();
        bring();
        clear();
        row();
        feed();
        textOfMedals();
        textOfDays();
        textInForce();
        juror();
        mark();
        mean();
        medal();
        cost();
        most();
        minute();
        bell();
        sight();
        canBe();
        places();
        found();
        sell();
        hand();
        end();
        count();
        finish();
    }

    private static void newObject() {
        promise(1);
        for (int w = -13; w <= 13; w++) {
            for (int h = -13; h <= 13; h++) {
                int cells = (3 + Math.floorMod(w, 6)) * (3 + Math.floorMod(h, 6));
                due("cells of " + w + ", " + h, new WorldHall(w, h).count(0), cells);
            }
        }
        due("least int", new WorldHall(Integer.MIN_VALUE, Integer.MIN_VALUE).count(0), 7 * 7);
        due("greatest int", new WorldHall(Integer.MAX_VALUE, Integer.MAX_VALUE).count(0), 4 * 4);
        WorldHall x = new WorldHall(0, 5);
        for (int c = 0; c < 24; c++) {
            due("plain at first", x.cell(c, 0), 0);
            due("bears 50 at first", x.bears(c, 50), 50);
            due("no stand at first", x.at(c), NONE);
        }
        x.cell(3, 2);
        int s = x.stand(0, 0, 0, 3, 1, 0);
        due("3 columns", x.hinders(s, 0), 0);
        due("a row begins at 3", x.hinders(s, 3), 2);
        due("8 rows", x.hinders(s, 21), 0);
    }

    private static void cell() {
        promise(2);
        WorldHall x = new WorldHall(2, 2);
        due("plain to shaft", x.cell(12, 2), 0);
        due("shaft to well", x.cell(12, 3), 2);
        due("well to plain", x.cell(12, 0), 3);
        due("plain it is", x.cell(12, 0), 0);
        int[] edge = {0, 1, 2, 3, 4, 5, 9, 10, 14, 15, 19, 20, 21, 22, 23, 24};
        for (int c : edge) {
            due("door on the edge", x.cell(c, 1), 0);
            due("it was a door", x.cell(c, 0), 1);
        }
        int[] middle = {6, 7, 8, 11, 12, 13, 16, 17, 18};
        for (int c : middle) {
            due("door in the middle", x.cell(c, 1), BAD);
            due("it stays plain", x.cell(c, 0), 0);
        }
        due("no cell 25", x.cell(25, 0), NONE);
        for (int c : WRONG) {
            due("no cell", x.cell(c, 9), NONE);
            due("no such what", x.cell(0, c), BAD);
        }
        due("what 4", x.cell(0, 4), BAD);
        plainStand(x, 0, 0);
        due("stands not laid do no harm", x.cell(0, 1), 0);
        x.lay(0, 1);
        due("a stand is laid", x.cell(24, 2), STATE);
        due("none ahead of state", x.cell(25, 2), NONE);
        due("bad ahead of state", x.cell(12, 1), BAD);
        x.take(0);
        due("it was left as it was", x.cell(24, 2), 0);
    }

    private static void bears() {
        promise(3);
        WorldHall x = new WorldHall(2, 2);
        due("50 at first", x.bears(24, 0), 50);
        due("0", x.bears(24, 99), 0);
        due("99", x.bears(24, 7), 99);
        due("100", x.bears(24, 100), BAD);
        due("no cell 25", x.bears(25, 100), NONE);
        for (int n : WRONG) {
            due("wrong much", x.bears(24, n), BAD);
            due("wrong cell", x.bears(n, 5), NONE);
        }
        plainStand(x, 0, 0);
        x.lay(0, 0);
        due("a stand is laid", x.bears(24, 5), STATE);
        due("bad ahead of state", x.bears(24, 100), BAD);
        due("none ahead of state", x.bears(25, 5), NONE);
        x.take(0);
        due("nothing was changed", x.bears(24, 7), 7);
    }

    private static void aisle() {
        promise(4);
        WorldHall x = new WorldHall(2, 2);
        due("1 at first", x.aisle(0), 1);
        due("0", x.aisle(3), 0);
        due("4", x.aisle(4), BAD);
        for (int n : WRONG) {
            due("wrong", x.aisle(n), BAD);
        }
        plainStand(x, 0, 0);
        x.lay(0, 0);
        due("a stand is laid", x.aisle(2), STATE);
        due("bad ahead of state", x.aisle(4), BAD);
        x.take(0);
        due("nothing was changed", x.aisle(3), 3);
    }

    private static void stand() {
        promise(5);
        WorldHall x = new WorldHall(2, 2);
        int[] least = {0, 0, 0, 1, 1, 0};
        int[] greatest = {4, 7, 9, 4, 4, 99};
        for (int i = 0; i < 6; i++) {
            due("below, number " + i, standOf(x, least, i, least[i] - 1), BAD);
            due("above, number " + i, standOf(x, greatest, i, greatest[i] + 1), BAD);
            for (int n : WRONG) {
                due("wrong, number " + i, standOf(x, least, i, n), BAD);
            }
        }
        due("none was made", x.count(1), 0);
        due("least ones", standOf(x, least, 0, least[0]), 0);
        due("greatest ones", standOf(x, greatest, 0, greatest[0]), 1);
        for (int s = 2; s < 9; s++) {
            due("number", plainStand(x, 0, 0), s);
        }
        due("a tenth", plainStand(x, 0, 0), FULL);
        due("bad ahead of full", plainStand(x, 8, 0), BAD);
        due("nine", x.count(1), 9);
        due("the last one is there", x.about(8, 3), NONE);
        due("the last one can be laid", x.lay(8, 24), 0);
        due("no tenth", x.about(9, 0), NONE);
        due("no tenth", x.hinders(9, 0), NONE);
    }

    private static int standOf(WorldHall x, int[] n, int at, int other) {
        int[] m = n.clone();
        m[at] = other;
        return x.stand(m[0], m[1], m[2], m[3], m[4], m[5]);
    }

    private static void hindersByPlace() {
        promise(6);
        WorldHall x = new WorldHall(2, 2);
        x.cell(2, 1);
        x.cell(12, 2);
        x.cell(22, 3);
        x.bears(16, 9);
        int wide = x.stand(0, 0, 0, 3, 1, 10);
        int deep = x.stand(0, 1, 0, 1, 3, 50);
        due("wide, column 2", x.hinders(wide, 7), 0);
        due("wide, column 3", x.hinders(wide, 8), 1);
        due("deep, row 2", x.hinders(deep, 14), 0);
        due("deep, row 3", x.hinders(deep, 19), 1);
        due("on a door", x.hinders(wide, 0), 2);
        due("on a shaft", x.hinders(wide, 10), 2);
        due("on a well", x.hinders(wide, 20), 2);
        due("a door, a shaft, deep", x.hinders(deep, 2), 2);
        due("a weak cell", x.hinders(wide, 15), 5);
        due("beside it", x.hinders(wide, 17), 0);
        x.bears(0, 9);
        x.bears(24, 9);
        due("the first cell is weak", x.hinders(x.stand(0, 0, 0, 2, 1, 10), 0), 5);
        due("the last cell is weak", x.hinders(2, 23), 5);
        due("it bears just as much", x.hinders(deep, 5), 0);
        due("it bears less", x.hinders(x.stand(0, 0, 0, 1, 1, 51), 5), 5);
        due("laid", x.lay(wide, 5), 0);
        due("another's cell", x.hinders(deep, 6), 3);
        due("it itself away", x.hinders(wide, 6), 0);
        due("of one class no aisle", x.hinders(deep, 10), 0);
        due("3 ahead of 5", x.hinders(3, 7), 3);
        due("beyond the hall ahead of another's", x.hinders(wide, 8), 1);
        due("no stand", x.hinders(4, 0), NONE);
        due("no cell", x.hinders(0, 25), NONE);
        for (int n : WRONG) {
            due("no stand", x.hinders(n, 0), NONE);
            due("no cell", x.hinders(0, n), NONE);
        }
    }

    private static void hindersByAisle() {
        promise(6);
        for (int n = 0; n <= 3; n++) {
            WorldHall x = new WorldHall(5, 5);
            x.aisle(n);
            int one = x.stand(0, 0, 0, 2, 1, 0);
            int other = x.stand(0, 0, 1, 1, 2, 99);
            x.lay(one, 8 * 3 + 3);
            for (int c = 0; c < 56; c++) {
                int column = c % 8;
                int line = c / 8;
                boolean covers = (column == 3 || column == 4) && (line == 3 || line == 2);
                boolean farAcross = column + 1 + n <= 3 || column >= 5 + n;
                boolean farDown = line + 2 + n <= 3 || line >= 4 + n;
                int want = covers ? 3 : farAcross || farDown ? 5 : 4;
                due("aisle " + n + ", cell " + c, x.hinders(other, c), want);
            }
        }
    }

    private static void hindersByNeed() {
        promise(6);
        WorldHall x = new WorldHall(2, 2);
        x.cell(12, 2);
        x.cell(24, 3);
        int wall = x.stand(1, 0, 0, 1, 1, 0);
        int engine = x.stand(2, 1, 0, 1, 1, 0);
        int living = x.stand(3, 2, 0, 1, 1, 0);
        int wideWall = x.stand(1, 3, 0, 2, 2, 0);
        int wideEngine = x.stand(2, 4, 0, 2, 1, 0);
        for (int c = 0; c < 24; c++) {
            boolean edge = c < 5 || c > 19 || c % 5 == 0 || c % 5 == 4;
            boolean besideShaft = c == 7 || c == 11 || c == 13 || c == 17;
            if (c != 12) {
                due("wall " + c, x.hinders(wall, c), edge ? 0 : 6);
                due("engine " + c, x.hinders(engine, c), besideShaft ? 0 : 6);
                due("living " + c, x.hinders(living, c), c == 19 || c == 23 ? 0 : 6);
            }
        }
        due("a wide wall in the middle", x.hinders(wideWall, 6), 2);
        x.cell(12, 0);
        due("a wide wall in the middle", x.hinders(wideWall, 6), 6);
        due("a wide wall", x.hinders(wideWall, 8), 0);
        x.cell(5, 2);
        due("not round the east edge", x.hinders(engine, 4), 6);
        due("not round the west edge", x.hinders(wideEngine, 8), 6);
        due("wide, its west cell", x.hinders(wideEngine, 6), 0);
        due("wide, in the north of it", x.hinders(wideEngine, 0), 0);
        int heavy = x.stand(2, 0, 0, 1, 1, 99);
        due("5 ahead of 6", x.hinders(heavy, 22), 5);
    }

    private static void hindersByKin() {
        promise(6);
        WorldHall x = new WorldHall(2, 2);
        x.aisle(0);
        int joint = x.stand(4, 1, 2, 1, 1, 0);
        int kin = plainStand(x, 1, 2);
        int otherLand = plainStand(x, 2, 2);
        int otherClass = plainStand(x, 1, 3);
        int joint2 = x.stand(4, 1, 2, 1, 1, 0);
        int wallKin = x.stand(1, 1, 2, 1, 1, 0);
        due("joint alone", x.lay(joint, 0), 0);
        due("it itself away", x.hinders(joint, 1), 0);
        due("kin of a joint", x.hinders(kin, 1), 7);
        due("other land", x.hinders(otherLand, 1), 0);
        due("other class", x.hinders(otherClass, 1), 0);
        due("two joints: 6", x.hinders(joint2, 1), 6);
        due("6 ahead of 7", x.hinders(wallKin, 6), 6);
        due("7 behind it", x.hinders(wallKin, 1), 7);
        x.take(joint);
        due("kin laid", x.lay(kin, 1), 0);
        due("kin again", x.hinders(wallKin, 2), 0);
        due("joint and kin: 6", x.hinders(joint, 0), 6);
        due("3 ahead of 6", x.hinders(joint, 1), 3);
    }

    private static void lay() {
        promise(7);
        WorldHall x = withDoor();
        int s = x.stand(0, 0, 0, 2, 2, 0);
        due("hindered", x.lay(s, 0), 2);
        due("not laid", x.about(s, 3), NONE);
        due("laid", x.lay(s, 6), 0);
        due("its last cell", x.at(12), s);
        due("moved by one", x.lay(s, 7), 0);
        due("its old cell", x.at(6), NONE);
        due("its new cell", x.at(13), s);
        due("laid where it lies", x.lay(s, 7), 0);
        due("hindered", x.lay(s, 9), 1);
        due("it stays", x.about(s, 3), 7);
        due("one is laid", x.count(2), 1);
        due("no stand", x.lay(1, 7), NONE);
        due("no cell", x.lay(s, 25), NONE);
        for (int n : WRONG) {
            due("no stand", x.lay(n, 7), NONE);
            due("no cell", x.lay(s, n), NONE);
        }
        x.bring(s);
        due("goods are in", x.lay(s, 8), STATE);
        due("goods are in, hindered", x.lay(s, 9), STATE);
        due("none ahead of state", x.lay(s, 25), NONE);
        x.clear();
        due("goods are out", x.lay(s, 8), 0);
    }

    private static void take() {
        promise(8);
        WorldHall x = withDoor();
        int s = x.stand(0, 0, 0, 2, 2, 0);
        due("not laid", x.take(s), NONE);
        x.lay(s, 7);
        due("no stand", x.take(1), NONE);
        for (int n : WRONG) {
            due("no stand", x.take(n), NONE);
        }
        x.bring(s);
        due("goods are in", x.take(s), STATE);
        x.clear();
        due("where it lay", x.take(s), 7);
        due("taken up", x.take(s), NONE);
        due("not there", x.at(7), NONE);
        due("nor anywhere", x.at(0), NONE);
        due("none laid", x.count(2), 0);
    }

    private static void about() {
        promise(9);
        WorldHall x = withDoor();
        x.cell(12, 3);
        plainStand(x, 0, 0);
        int s = x.stand(3, 7, 9, 1, 2, 50);
        int[] fresh = {3, 7, 9, NONE, 0, NONE, 0, NONE};
        for (int what = 0; what < fresh.length; what++) {
            due("what " + what, x.about(s, what), fresh[what]);
        }
        x.lay(s, 11);
        x.bring(s);
        x.sell(s, 0);
        x.juror(0, 9);
        x.mark(0, s, 0, 0);
        int[] later = {3, 7, 9, 11, 1, 0, 1};
        for (int what = 0; what < later.length; what++) {
            due("later, what " + what, x.about(s, what), later[what]);
        }
        due("the other one's marks", x.about(0, 6), 0);
        due("no stand", x.about(2, 0), NONE);
        for (int n : WRONG) {
            due("no stand", x.about(n, 0), NONE);
            due("no what", x.about(s, n), NONE);
        }
    }

    private static void at() {
        promise(10);
        WorldHall x = new WorldHall(2, 2);
        x.stand(0, 0, 0, 3, 2, 0);
        x.stand(0, 0, 0, 1, 1, 0);
        x.lay(0, 6);
        x.lay(1, 24);
        for (int c = 0; c < 25; c++) {
            boolean first = c / 5 >= 1 && c / 5 <= 2 && c % 5 >= 1 && c % 5 <= 3;
            due("cell " + c, x.at(c), first ? 0 : c == 24 ? 1 : NONE);
        }
        due("no cell", x.at(25), NONE);
        for (int n : WRONG) {
            due("no cell", x.at(n), NONE);
        }
    }

    private static void price() {
        promise(11);
        WorldHall x = new WorldHall(2, 2);
        x.aisle(0);
        plainStand(x, 0, 0);
        plainStand(x, 0, 0);
        plainStand(x, 0, 1);
        plainStand(x, 1, 0);
        plainStand(x, 2, 2);
        due("none laid", x.price(), 0);
        x.lay(0, 0);
        due("one laid", x.price(), 0);
        x.lay(1, 24);
        due("land and class: twice 8", x.price(), 16);
        x.lay(2, 4);
        due("of the land of both: 4 and 4", x.price(), 24);
        x.lay(3, 22);
        due("of the class of both: 6 and 2", x.price(), 32);
        x.lay(4, 12);
        due("of none", x.price(), 32);
        x.take(1);
        due("without 1", x.price(), 10);
        WorldHall y = new WorldHall(2, 2);
        y.aisle(0);
        y.stand(0, 0, 0, 1, 2, 0);
        y.stand(0, 0, 1, 4, 3, 0);
        y.lay(0, 0);
        y.lay(1, 11);
        due("the distance of first cells, not the gap", y.price(), 3);
    }

    private static void better() {
        promise(12);
        WorldHall x = withDoor();
        due("nothing is laid", x.better(), 0);
        plainStand(x, 0, 0);
        plainStand(x, 1, 0);
        x.lay(0, 24);
        x.lay(1, 4);
        // the first cheaper cell in the order of cells is taken, not the cheapest one
        due("moves", x.better(), 3);
        due("first stand first", x.about(0, 3), 3);
        due("the other stays", x.about(1, 3), 4);
        due("price is 1", x.price(), 1);
        due("nothing more", x.better(), 0);
        x.bring(1);
        due("goods are in", x.better(), STATE);
        x.clear();
        due("goods are out", x.better(), 0);
        WorldHall y = new WorldHall(2, 2);
        y.stand(0, 0, 0, 1, 1, 0);
        y.stand(1, 0, 1, 1, 1, 0);
        y.lay(0, 12);
        y.lay(1, 0);
        due("a wall to the wall's nearest, past the aisle", y.better(), 1);
        due("it moved", y.about(0, 3), 2);
        due("price", y.price(), 2);
        WorldHall z = new WorldHall(2, 2);
        plainStand(z, 0, 0);
        plainStand(z, 1, 0);
        z.lay(0, 4);
        z.lay(1, 1);
        due("the very first cell", z.better(), 1);
        due("it moved there", z.about(0, 3), 0);
    }

    private static void can() {
        promise(13);
        WorldHall x = new WorldHall(2, 2);
        x.aisle(0);
        plainStand(x, 0, 0);
        due("not laid", x.can(0), NONE);
        due("no stand", x.can(1), NONE);
        for (int n : WRONG) {
            due("no stand", x.can(n), NONE);
        }
        x.lay(0, 12);
        due("without a door", x.can(0), 0);
        x.take(0);
        x.cell(0, 1);
        x.cell(1, 2);
        x.cell(5, 3);
        x.lay(0, 12);
        due("shaft and well round the door, no way across the corner", x.can(0), 0);
        x.take(0);
        x.cell(5, 0);
        x.lay(0, 12);
        due("a way", x.can(0), 1);
        x.stand(0, 1, 1, 1, 1, 0);
        x.lay(1, 5);
        due("through a stand without goods", x.can(0), 1);
        x.bring(1);
        due("goods in the way", x.can(0), 0);
        due("they are in", x.can(1), 0);
        x.clear();
        due("goods are out", x.can(0), 1);
        x.take(1);
        x.take(0);
        x.cell(1, 0);
        x.cell(24, 1);
        x.lay(0, 12);
        x.lay(1, 5);
        x.bring(1);
        due("some door is enough", x.can(0), 1);
        WorldHall y = new WorldHall(2, 2);
        y.cell(4, 1);
        y.cell(3, 2);
        y.cell(8, 2);
        y.stand(0, 0, 0, 2, 2, 0);
        y.lay(0, 0);
        due("through the east", y.can(0), 1);
        y.take(0);
        y.cell(9, 3);
        y.lay(0, 0);
        due("shut in; no way from the east edge to the west", y.can(0), 0);
        y.lay(0, 5);
        due("likewise", y.can(0), 0);
    }

    private static void bring() {
        promise(14);
        WorldHall x = new WorldHall(0, 2);
        x.cell(1, 1);
        x.stand(0, 0, 0, 3, 1, 0);
        x.stand(0, 1, 0, 3, 1, 0);
        due("not laid", x.bring(0), NONE);
        due("no stand", x.bring(2), NONE);
        for (int n : WRONG) {
            due("no stand", x.bring(n), NONE);
        }
        x.lay(0, 3);
        x.lay(1, 6);
        due("brought", x.bring(0), 1);
        due("in", x.about(0, 4), 1);
        due("they are in", x.bring(0), STATE);
        due("they can't", x.bring(1), 0);
        due("not in", x.about(1, 4), 0);
        due("one", x.count(3), 1);
        x.clear();
        due("the inner first", x.bring(1), 1);
        due("the outer then", x.bring(0), 1);
    }

    private static void clear() {
        promise(15);
        WorldHall x = withDoor();
        due("none", x.clear(), 0);
        plainStand(x, 0, 0);
        plainStand(x, 1, 0);
        plainStand(x, 2, 0);
        x.lay(0, 12);
        x.lay(1, 24);
        x.lay(2, 20);
        x.bring(0);
        x.bring(2);
        x.sell(2, 5);
        due("two", x.clear(), 2);
        due("out", x.about(0, 4) + x.about(1, 4) + x.about(2, 4), 0);
        due("sold it stays", x.about(2, 5), 5);
        due("laid they stay", x.count(2), 3);
        due("none more", x.clear(), 0);
    }

    private static void row() {
        promise(16);
        WorldHall x = new WorldHall(0, 2);
        x.cell(1, 1);
        x.stand(0, 0, 0, 3, 1, 0);
        x.stand(0, 1, 0, 3, 1, 0);
        x.stand(0, 2, 0, 1, 1, 0);
        x.stand(0, 3, 0, 1, 1, 0);
        due("nothing is laid", x.row(0), NONE);
        x.lay(0, 3);
        x.lay(1, 9);
        x.lay(3, 6);
        x.lay(2, 12);
        due("the one behind all", x.row(0), 2);
        due("not 0: it shuts the way", x.row(1), 1);
        due("0 shuts 3", x.row(2), 3);
        due("last", x.row(3), 0);
        due("no fifth", x.row(4), NONE);
        for (int n : WRONG) {
            due("no place", x.row(n), NONE);
        }
        x.bring(0);
        due("goods that are in do not count", x.row(0), 2);
        due("they are in the row", x.row(3), 0);
        x.clear();
        x.take(0);
        x.take(1);
        x.lay(1, 3);
        due("the lesser first", x.row(0), 2);
        due("then 3", x.row(1), 3);
        due("then 1", x.row(2), 1);
        due("0 is not laid", x.row(3), NONE);
        x.take(1);
        x.take(2);
        x.take(3);
        x.cell(4, 2);
        x.cell(3, 2);
        x.cell(5, 3);
        x.lay(2, 2);
        x.lay(3, 12);
        due("3 is never reached: no row", x.row(0), NONE);
    }

    private static void feed() {
        promise(17);
        WorldHall x = new WorldHall(0, 0);
        for (int n : WRONG) {
            due("wrong n", x.feed(0, n), BAD);
        }
        due("n 0", x.feed(0, 0), BAD);
        due("n 9", x.feed(0, 9), BAD);
        due("no bytes", x.count(12), 0);
        due("the highest first", x.feed(0x7061792037L, 5), 5);
        due("read", x.text(1, 0), 1);
        due("as pay 7", x.cost(0), 7);
        due("lowest bytes alone", x.feed(0x4141417061792038L, 5), 5);
        due("read", x.text(1, 0), 2);
        due("as pay 8", x.cost(0), 8);
        due("below 0", x.feed(-1L, 8), 8);
        due("no byte of them is read", x.text(1, 0), -10);
        for (int i = 1; i <= 14; i++) {
            due("eight more", x.feed(i, 8), 8 * i);
        }
        due("four more", x.feed(1, 4), 116);
        due("five are too many", x.feed(1, 5), FULL);
        due("bad ahead of full", x.feed(1, 9), BAD);
        due("nothing was changed", x.feed(1, 4), 120);
        due("it is full", x.feed(1, 1), FULL);
    }

    private static void textOfMedals() {
        promise(18);
        String[] good = {"gold at 90,bronze at 60", "gold at 1,silver at 22,bronze at 333", "silver at 000", "bronze at 5"};
        for (int i = 0; i < good.length; i++) {
            WorldHall x = new WorldHall(0, 0);
            due(good[i], textOf(x, 0, 0, good[i]), 1);
        }
        fault(0, "", 0);
        fault(0, "Gold at 9", 0);
        fault(0, "tin at 9", 0);
        fault(0, " gold at 9", 0);
        fault(0, "golf at 9", 3);
        fault(0, "gold  at 9", 5);
        fault(0, "gold at", 7);
        fault(0, "gold at ", 8);
        fault(0, "gold at x", 8);
        fault(0, "gold at  9", 8);
        fault(0, "gold at 9 ", 9);
        fault(0, "gold at 9999", 11);
        fault(0, "gold at 9,", 10);
        fault(0, "gold at 9, silver at 5", 10);
        fault(0, "gold at 9,gold at 8", 10);
        fault(0, "silver at 9,gold at 8", 12);
        fault(0, "silver at 9,silver at 8", 12);
        fault(0, "bronze at 9,", 11);
        fault(0, "bronze at 9,gold at 9", 11);
        fault(0, "gold at 9,s", 11);
        fault(0, "gold at 9,b" + (char) 242, 11);
        fault(0, "gold at " + (char) 185, 8);
        fault(0, "pay 5", 0);
    }

    private static void textOfDays() {
        promise(18);
        String[] good = {"pay 0", "pay 999", "pay 5 on 0,7", "pay 1 on 0,2 on 6,3 on 6,004 on 0,5"};
        for (int i = 0; i < good.length; i++) {
            WorldHall x = new WorldHall(0, 0);
            due(good[i], textOf(x, 1, 0, good[i]), 1);
        }
        fault(1, "", 0);
        fault(1, "pay", 3);
        fault(1, "pay ", 4);
        fault(1, "pay  5", 4);
        fault(1, "pay 1234", 7);
        fault(1, "pay 12,3", 6);
        fault(1, "pay 5 ", 6);
        fault(1, "pay 5 on", 8);
        fault(1, "pay 5 on ", 9);
        fault(1, "pay 5 on 7,3", 9);
        fault(1, "pay 5 on 6", 10);
        fault(1, "pay 5 on 66,3", 10);
        fault(1, "pay 5 on 6,", 11);
        fault(1, "pay 5 on 6, 3", 11);
        fault(1, "pay 5 on 6,3,", 12);
        fault(1, "pay 5 off 6,3", 7);
        fault(1, "pay 1 on 0,2 on 6,3 on 6,4 on 0,5 on 1,6", 33);
        fault(1, "pay 1 on 0,2 on 6,3 on 6,4 on 0,", 32);
        fault(1, "gold at 5", 0);
    }

    private static void fault(int sort, String words, int place) {
        WorldHall x = new WorldHall(0, 0);
        due("fault of " + words, textOf(x, sort, 0, words), -10 - place);
        due("none in force", x.cost(5), 0);
    }

    private static void textInForce() {
        promise(18);
        WorldHall x = new WorldHall(0, 0);
        feedAll(x, "pay 1");
        due("sort 2", x.text(2, 0), BAD);
        due("day 1000", x.text(1, 1000), BAD);
        for (int n : WRONG) {
            due("wrong sort", x.text(n, 0), BAD);
            due("wrong day", x.text(1, n), BAD);
        }
        due("the tape is as it was", x.count(12), 5);
        due("first", x.text(1, 10), 1);
        due("the other sort", textOf(x, 0, 0, "gold at 5"), 1);
        due("second", textOf(x, 1, 20, "pay 2"), 2);
        due("a fault does not count", textOf(x, 1, 5, "pay x"), -14);
        due("third", textOf(x, 1, 15, "pay 3"), 3);
        due("fourth", textOf(x, 1, 10, "pay 4"), 4);
        due("fifth", textOf(x, 1, 999, "pay 5"), 5);
        due("sixth", textOf(x, 1, 0, "pay 6"), 6);
        feedAll(x, "pay 7");
        due("seventh", x.text(1, 0), FULL);
        due("bad ahead of full", x.text(1, 1000), BAD);
        due("the tape is as it was", x.count(12), 5);
        int[] day = {0, 9, 10, 14, 15, 19, 20, 998, 999, 5000};
        int[] pay = {6, 6, 4, 4, 3, 3, 2, 2, 5, 5};
        for (int i = 0; i < day.length; i++) {
            due("cost of day " + day[i], x.cost(day[i]), pay[i]);
        }
        due("of the other sort there is room", x.text(0, 0), -10);
    }

    private static void juror() {
        promise(19);
        WorldHall x = new WorldHall(0, 0);
        for (int n : WRONG) {
            due("wrong land", x.juror(n, 0), BAD);
            due("wrong class", x.juror(0, n), BAD);
        }
        due("land 8", x.juror(8, 0), BAD);
        due("class 10", x.juror(0, 10), BAD);
        for (int i = 0; i < 12; i++) {
            due("juror", x.juror(i % 8, i % 10), i);
        }
        due("a thirteenth", x.juror(7, 9), FULL);
        due("bad ahead of full", x.juror(8, 9), BAD);
        due("twelve", x.count(4), 12);
    }

    private static void mark() {
        promise(20);
        WorldHall x = new WorldHall(0, 0);
        plainStand(x, 0, 0);
        due("no juror", x.mark(0, 0, 5, 5), -5);
        x.juror(1, 0);
        x.juror(0, 0);
        x.juror(1, 1);
        due("no stand", x.mark(0, 1, 5, 5), -5);
        for (int n : WRONG) {
            due("no juror", x.mark(n, 0, 5, 5), -5);
            due("no stand", x.mark(0, n, 5, 5), -5);
            due("wrong mark", x.mark(0, 0, n, 5), BAD);
            due("wrong day", x.mark(0, 0, 5, n), BAD);
        }
        due("no such ahead of bad", x.mark(3, 0, 101, 5), -5);
        due("101", x.mark(0, 0, 101, 5), BAD);
        due("day 1000", x.mark(0, 0, 5, 1000), BAD);
        due("its land", x.mark(1, 0, 5, 5), STATE);
        due("another class", x.mark(2, 0, 5, 5), STATE);
        due("bad ahead of state", x.mark(2, 0, 101, 5), BAD);
        due("no marks yet", x.count(5), 0);
        due("first", x.mark(0, 0, 0, 0), NONE);
        due("it was 0", x.mark(0, 0, 100, 999), 0);
        due("it was 100", x.mark(0, 0, 7, 5), 100);
        due("one mark", x.count(5), 1);
        due("one of the stand", x.about(0, 6), 1);
        WorldHall y = new WorldHall(0, 0);
        for (int i = 0; i < 12; i++) {
            plainStand(y, 0, 0);
            y.juror(1 + i % 7, 0);
        }
        for (int i = 0; i < 12 * 9; i++) {
            due("each to each", y.mark(i / 9, i % 9, i % 101, i), NONE);
        }
        due("all marks", y.count(5), 108);
        due("of the last stand", y.about(8, 6), 12);
        due("the first mark", y.mark(0, 0, 50, 0), 0);
        due("the last mark", y.mark(11, 8, 50, 0), 107 % 101);
        due("mean of all", y.mean(4, 999), (4 + 13 + 22 + 31 + 40 + 49 + 58 + 67 + 76 + 85 + 94 + 103 - 101) / 12);
    }

    private static void mean() {
        promise(21);
        WorldHall x = new WorldHall(0, 0);
        plainStand(x, 0, 0);
        plainStand(x, 0, 0);
        for (int land = 1; land < 4; land++) {
            x.juror(land, 0);
        }
        x.mark(0, 0, 10, 5);
        due("one mark", x.mean(0, 999), NONE);
        x.mark(1, 0, 11, 7);
        x.mark(2, 0, 99, 9);
        due("ahead of the second", x.mean(0, 6), NONE);
        due("on the day of the second", x.mean(0, 7), 10);
        due("all three", x.mean(0, 9), 40);
        due("any later day", x.mean(0, Integer.MAX_VALUE), 40);
        due("a day below 0", x.mean(0, -1), NONE);
        due("the other stand", x.mean(1, 9), NONE);
        x.mark(0, 0, 12, 8);
        due("the newer mark took its place", x.mean(0, 7), NONE);
        due("both", x.mean(0, 8), 11);
        x.mark(1, 1, 0, 0);
        x.mark(2, 1, 0, 0);
        due("a mean of 0", x.mean(1, 0), 0);
        due("no stand", x.mean(2, 9), NONE);
        for (int n : WRONG) {
            due("no stand", x.mean(n, 9), NONE);
        }
    }

    private static void medal() {
        promise(22);
        WorldHall x = new WorldHall(0, 0);
        plainStand(x, 0, 0);
        x.juror(1, 0);
        x.juror(2, 0);
        textOf(x, 0, 3, "gold at 90,silver at 80,bronze at 70");
        due("no mean", x.medal(0, 9), 0);
        int[] mark = {100, 90, 89, 80, 79, 70, 69, 0};
        int[] medal = {3, 3, 2, 2, 1, 1, 0, 0};
        for (int i = 0; i < mark.length; i++) {
            x.mark(0, 0, mark[i], 1);
            x.mark(1, 0, mark[i], 1);
            due("mean " + mark[i], x.medal(0, 3), medal[i]);
            due("ahead of the text", x.medal(0, 2), 0);
        }
        textOf(x, 0, 5, "gold at 999,bronze at 0");
        due("the earlier text", x.medal(0, 4), 0);
        due("the later text", x.medal(0, 5), 1);
        textOf(x, 0, 6, "gold at 0,silver at 0");
        due("the first name", x.medal(0, 6), 3);
        textOf(x, 0, 7, "silver at 5,bronze at 0");
        due("the second", x.medal(0, 7), 1);
        due("no stand", x.medal(1, 7), NONE);
        due("a day below 0", x.medal(0, -1), 0);
        for (int n : WRONG) {
            due("no stand", x.medal(n, 7), NONE);
        }
    }

    private static void cost() {
        promise(23);
        WorldHall x = new WorldHall(0, 0);
        due("no text", x.cost(0), 0);
        textOf(x, 1, 7, "pay 1 on 0,20 on 3,300 on 3,4 on 6,55");
        int[] week = {1, 55, 55, 20, 55, 55, 4};
        for (int day = 0; day < 7; day++) {
            due("ahead of the text", x.cost(day), 0);
            due("day " + day, x.cost(7 + day), week[day]);
            due("much later", x.cost(7000 + day), week[day]);
        }
        due("the last int", x.cost(Integer.MAX_VALUE), week[Integer.MAX_VALUE % 7]);
        due("below 0", x.cost(-1), NONE);
        due("far below 0", x.cost(Integer.MIN_VALUE), NONE);
    }

    private static void most() {
        promise(24);
        WorldHall x = new WorldHall(0, 0);
        for (int n : WRONG) {
            due("wrong", x.most(n), BAD);
        }
        due("0", x.most(0), BAD);
        due("20001", x.most(20001), BAD);
        due("1000 at first", x.most(20000), 1000);
        due("20000", x.most(1), 20000);
        due("1", x.most(1), 1);
        due("one gets in", x.minute(5, 0), 1);
        x.most(3);
        due("two more", x.minute(0, 0), 3);
        x.most(1);
        due("nobody is sent out", x.minute(9, 0), 3);
        due("nobody enters", x.minute(0, 2), 1);
        due("eleven wait", x.count(9), 11);
    }

    private static void minute() {
        promise(25);
        WorldHall x = new WorldHall(0, 0);
        textOf(x, 1, 0, "pay 3 on 0,5");
        for (int n : WRONG) {
            due("wrong come", x.minute(n, 0), BAD);
            due("wrong go", x.minute(0, n), BAD);
        }
        due("2001 come", x.minute(2001, 0), BAD);
        due("2001 go", x.minute(0, 2001), BAD);
        due("no minute yet", x.count(7), 0);
        due("to the brim", x.minute(2000, 0), 1000);
        due("the others wait", x.count(9), 1000);
        due("takings", x.count(10), 3000);
        due("they go first, then others enter", x.minute(100, 250), 1000);
        due("850 wait", x.count(9), 850);
        due("all go", x.minute(0, 2000), 850);
        due("nobody waits", x.count(9), 0);
        due("takings", x.count(10), 3 * 2100);
        due("three minutes", x.count(7), 3);
        due("more go than are inside", x.minute(0, 2000), 0);
        due("those that come do not go", x.minute(7, 2000), 7);
        for (int i = 5; i < 300; i++) {
            x.minute(0, 0);
        }
        due("300 minutes", x.count(7), 300);
        x.bell();
        x.minute(10, 0);
        due("takings of the next day", x.count(10), 50);
        due("takings of all", x.count(11), 50 + 3 * 2107);
    }

    private static void bell() {
        promise(26);
        WorldHall x = new WorldHall(0, 0);
        textOf(x, 1, 0, "pay 1");
        x.most(5);
        x.minute(9, 0);
        due("day 1", x.bell(), 1);
        int[] want = {1, 0, 0, 0, 0, 5};
        for (int i = 0; i < want.length; i++) {
            due("count " + (6 + i), x.count(6 + i), want[i]);
        }
        due("nobody enters", x.minute(0, 0), 0);
        due("day 2", x.bell(), 2);
        due("MOST stays", x.most(5), 5);
    }

    private static void sight() {
        promise(27);
        WorldHall x = withDoor();
        x.cell(6, 2);
        x.cell(7, 3);
        plainStand(x, 0, 0);
        x.lay(0, 8);
        due("no cell", x.sight(25, -1), NONE);
        for (int n : WRONG) {
            due("no cell", x.sight(n, 0), NONE);
            due("wrong minute", x.sight(0, n), BAD);
        }
        due("minute 10001", x.sight(0, 10001), BAD);
        due("a shaft", x.sight(6, 0), BAD);
        due("a well", x.sight(7, 0), BAD);
        due("a door, minute 0", x.sight(0, 0), 1);
        due("not behind", x.sight(1, 0), BAD);
        due("on a stand, far away in a minute", x.sight(8, 1), 2);
        for (int i = 3; i <= 9; i++) {
            due("more", x.sight(24, 10 * i), i);
        }
        due("behind, but ahead of the latest", x.sight(24, 89), BAD);
        due("the tenth", x.sight(24, 9999), 10);
        due("bad ahead of full", x.sight(24, 9999), BAD);
        due("the eleventh", x.sight(24, 10000), FULL);
        x.found();
        due("anew", x.sight(24, 10000), 1);
        due("none behind it", x.sight(24, 10001), BAD);
    }

    private static void canBe() {
        promise(28);
        WorldHall x = withDoor();
        x.cell(7, 2);
        x.cell(11, 3);
        due("no cell", x.canBe(25, 0), NONE);
        due("no sight", x.canBe(24, 0), STATE);
        for (int n : WRONG) {
            due("no cell", x.canBe(n, 0), NONE);
        }
        plainStand(x, 0, 0);
        x.lay(0, 17);
        x.sight(12, 10);
        due("ahead of the sight", x.canBe(12, 9), BAD);
        due("none ahead of bad", x.canBe(25, 9), NONE);
        due("there", x.canBe(12, 10), 1);
        due("not yet", x.canBe(13, 10), 0);
        due("a step", x.canBe(13, 11), 1);
        due("a shaft", x.canBe(7, 1000), 0);
        due("a well", x.canBe(11, 1000), 0);
        due("a stand", x.canBe(17, 1000), 0);
        due("round the stand, not yet", x.canBe(22, 13), 0);
        due("round the stand", x.canBe(22, 14), 1);
        due("not across corners", x.canBe(18, 11), 0);
        due("not round the edge", x.canBe(15, 13), 0);
        due("the last minute there is", x.canBe(0, Integer.MAX_VALUE), 1);
        x.sight(17, 20);
        due("on the stand itself", x.canBe(17, 20), 1);
        due("it may stay there", x.canBe(17, 25), 1);
        due("and leave", x.canBe(22, 21), 1);
        due("from the latest alone", x.canBe(24, 21), 0);
    }

    private static void places() {
        promise(29);
        WorldHall x = withDoor();
        due("no sight", x.places(0), STATE);
        due("no sight", x.places(Integer.MIN_VALUE), STATE);
        x.sight(12, 10);
        due("ahead of it", x.places(9), BAD);
        due("far ahead of it", x.places(Integer.MIN_VALUE), BAD);
        int[] want = {1, 5, 13, 21, 25, 25};
        for (int i = 0; i < want.length; i++) {
            due("minute " + i, x.places(10 + i), want[i]);
        }
        due("the last minute there is", x.places(Integer.MAX_VALUE), 25);
        x.stand(0, 0, 0, 4, 1, 0);
        x.lay(0, 15);
        due("the way goes round the stand", x.places(13), 14);
        due("past the stand", x.places(100), 21);
        x.sight(15, 100);
        due("from the stand", x.places(101), 3);
        x.take(0);
        x.cell(15, 2);
        due("its cell has become a shaft", x.places(101), 4);
        WorldHall y = new WorldHall(5, 5);
        y.sight(0, 0);
        due("64 cells", y.places(13), 63);
        due("64 cells", y.places(14), 64);
    }

    private static void found() {
        promise(30);
        WorldHall x = withDoor();
        due("none", x.found(), 0);
        x.sight(3, 50);
        x.sight(4, 51);
        due("two", x.found(), 2);
        due("none then", x.found(), 0);
        due("no sight", x.places(60), STATE);
        due("anew, of an earlier minute", x.sight(3, 5), 1);
    }

    private static void sell() {
        promise(31);
        WorldHall x = withDoor();
        due("no stand", x.sell(0, 5), NONE);
        plainStand(x, 0, 0);
        plainStand(x, 1, 0);
        for (int n : WRONG) {
            due("no stand", x.sell(n, 5), NONE);
            due("wrong buyer", x.sell(0, n), BAD);
        }
        due("1000", x.sell(0, 1000), BAD);
        due("not laid", x.sell(0, 5), STATE);
        x.lay(0, 12);
        x.lay(1, 24);
        due("goods are not in", x.sell(0, 5), STATE);
        x.bring(0);
        x.bring(1);
        due("bad ahead of state", x.sell(0, 1000), BAD);
        due("sold", x.sell(0, 999), 0);
        due("sold to 0", x.sell(1, 0), 0);
        due("once", x.sell(0, 5), STATE);
        due("once, to 0 too", x.sell(1, 5), STATE);
        due("to whom", x.about(0, 5), 999);
        due("to whom", x.about(1, 5), 0);
        due("goods stay in", x.take(0), STATE);
    }

    private static void hand() {
        promise(32);
        WorldHall x = withDoor();
        due("no stand", x.hand(0), NONE);
        for (int s = 0; s < 3; s++) {
            plainStand(x, s, 0);
            x.lay(s, 12 + s);
            x.bring(s);
        }
        for (int n : WRONG) {
            due("no stand", x.hand(n), NONE);
        }
        x.end(2);
        due("not sold", x.hand(0), STATE);
        x.sell(0, 0);
        x.sell(1, 9);
        due("ahead of the end", x.hand(0), STATE);
        x.bell();
        due("a day ahead of the end", x.hand(0), STATE);
        x.bell();
        due("to 0", x.hand(0), 0);
        due("goods are out", x.about(0, 4), 0);
        due("not laid", x.about(0, 3), NONE);
        due("not on its cell", x.at(12), NONE);
        due("sold it stays", x.about(0, 5), 0);
        due("once", x.hand(0), STATE);
        due("not sold", x.hand(2), STATE);
        due("one", x.count(13), 1);
        x.clear();
        x.take(1);
        due("taken up, but sold", x.hand(1), 9);
        due("two", x.count(13), 2);
        due("laid again", x.lay(0, 24), 0);
        due("brought again", x.bring(0), 1);
        due("sold already", x.sell(0, 4), STATE);
        due("handed over already", x.hand(0), STATE);
    }

    private static void end() {
        promise(33);
        WorldHall x = new WorldHall(0, 0);
        for (int n : WRONG) {
            due("wrong", x.end(n), BAD);
        }
        due("1000", x.end(1000), BAD);
        due("180 at first", x.end(999), 180);
        due("999", x.end(0), 999);
        due("0", x.end(0), 0);
    }

    private static void count() {
        promise(34);
        WorldHall x = withDoor();
        int[] fresh = {25, 0, 0, 0, 0, 0, 0, 0, 0, 0, 0, 0, 0, 0, NONE};
        for (int what = 0; what < fresh.length; what++) {
            due("at first, what " + what, x.count(what), fresh[what]);
        }
        for (int n : WRONG) {
            due("no what", x.count(n), NONE);
        }
        for (int s = 0; s < 5; s++) {
            plainStand(x, s, 0);
        }
        for (int s = 0; s < 4; s++) {
            x.lay(s, 10 + s);
        }
        x.bring(0);
        x.bring(1);
        x.bring(2);
        x.end(0);
        x.sell(0, 1);
        x.hand(0);
        x.juror(7, 0);
        x.juror(6, 0);
        x.mark(0, 0, 5, 5);
        x.mark(0, 1, 5, 5);
        x.mark(1, 1, 5, 5);
        textOf(x, 1, 0, "pay 2");
        x.most(10);
        x.minute(4, 0);
        x.bell();
        x.minute(8, 0);
        x.minute(5, 0);
        x.feed(0, 7);
        int[] later = {25, 5, 3, 2, 2, 3, 1, 2, 10, 3, 20, 28, 7, 1, NONE};
        for (int what = 0; what < later.length; what++) {
            due("later, what " + what, x.count(what), later[what]);
        }
    }
}
