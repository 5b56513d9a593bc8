import java.util.ArrayList;
import java.util.List;
import java.util.function.Supplier;
import java.util.function.ToIntFunction;

/**
 * The document's part 5: each refusal of each call, of several the first one told, and that it has changed nothing:
 * of two halls made alike one is asked what it refuses, and then both must answer alike to whatever can be asked.
 */
public final class RefusalsTest extends Bench {
    private final String name;
    private final Supplier<WorldHall> made;
    private final List<Integer> untouched;

    private RefusalsTest(String name, Supplier<WorldHall> made) {
        this.name = name;
        this.made = made;
        this.untouched = answersOf(made.get());
    }

    public static void main(String[] args) {
        says("REFUSALS, of several the first one told: NONE there is no such CELL, STAND, JUROR, what, i; "
            + "BAD a number is not as told; STATE as told; FULL. They change nothing.");
        RefusalsTest fresh = new RefusalsTest("a new hall", () -> hallOf(5, 5));
        RefusalsTest laid = new RefusalsTest("stands are laid", RefusalsTest::laidHall);
        RefusalsTest busy = new RefusalsTest("goods are in", RefusalsTest::busyHall);
        RefusalsTest full = new RefusalsTest("all is full", RefusalsTest::fullHall);
        areMadeAsTold();
        ofANewHall(fresh);
        ofCells(laid);
        ofStands(laid);
        ofGoods(laid, busy);
        ofTexts(laid);
        ofMarks(laid);
        ofMinutes(laid);
        ofTheLostOne(laid);
        ofSales(laid, busy);
        ofAFullHall(full);
        ofSeveralTheFirst(laid, busy, full);
        thatOnlyAsk(fresh, laid, busy, full);
        thatAreHindered(laid, busy);
        finish();
    }

    /** 5 by 5 with something of everything; stands 0 and 1 are laid, 2 is not. */
    private static WorldHall laidHall() {
        WorldHall x = withDoor();
        x.cell(12, SHAFT);
        x.cell(24, WELL);
        x.bears(1, 20);
        plainStand(x, 0, 0);
        plainStand(x, 1, 0);
        x.stand(WALL, 2, 1, 2, 1, 30);
        x.lay(0, 6);
        x.lay(1, 8);
        int[][] jurors = {{3, 0}, {4, 0}, {0, 0}, {3, 1}};
        for (int[] one : jurors) {
            x.juror(one[0], one[1]);
        }
        x.mark(0, 0, 80, 3);
        x.mark(1, 0, 61, 4);
        feedAll(x, "pay 5 on 2,6");
        x.text(1, 0);
        feedAll(x, "gold at 70,bronze at 10");
        x.text(0, 0);
        feedAll(x, "pay 9");
        x.most(10);
        x.bell();
        x.minute(12, 0);
        x.minute(4, 3);
        x.sight(1, 10);
        x.sight(2, 20);
        x.end(3);
        return x;
    }

    /** As laid, and the goods of 0 and 1 are in, 0 is sold; 3 is sold and handed over. */
    private static WorldHall busyHall() {
        WorldHall x = laidHall();
        plainStand(x, 5, 0);
        x.lay(3, 20);
        x.bring(3);
        x.sell(3, 44);
        x.end(1);
        x.hand(3);
        x.end(3);
        x.bring(1);
        x.bring(0);
        x.sell(0, 7);
        return x;
    }

    private static WorldHall fullHall() {
        WorldHall x = withDoor();
        x.cell(12, SHAFT);
        for (int s = 0; s < 9; s++) {
            plainStand(x, s % 8, 0);
        }
        x.lay(0, 6);
        x.bring(0);
        for (int i = 0; i < 12; i++) {
            x.juror(i % 8, 0);
        }
        for (int i = 1; i <= 6; i++) {
            feedAll(x, "pay " + i);
            x.text(1, i);
            feedAll(x, "gold at " + i);
            x.text(0, i);
        }
        feedAll(x, "pay 7" + " ".repeat(115));
        for (int i = 1; i <= 10; i++) {
            x.sight(i, 2 * i);
        }
        return x;
    }

    private static void areMadeAsTold() {
        countsAre("laid", laidHall(), 25, 3, 2, 0, 4, 2, 1, 2, 10, 3, 78, 78, 5, 0);
        countsAre("busy", busyHall(), 25, 4, 2, 2, 4, 2, 1, 2, 10, 3, 78, 78, 5, 1);
        countsAre("full", fullHall(), 25, 9, 1, 1, 12, 0, 0, 0, 0, 0, 0, 0, 120, 0);
        due("busy: 0 is sold", busyHall().about(0, 5), 7);
        due("busy: 3 is sold", busyHall().about(3, 5), 44);
        due("laid: sights", laidHall().found(), 2);
        due("full: sights", fullHall().found(), 10);
    }

    private static void countsAre(String which, WorldHall x, int... want) {
        for (int what = 0; what < want.length; what++) {
            due(which + " hall, count " + what, x.count(what), want[what]);
        }
    }

    /** All that can be asked; what shows only as "what it was" comes last. */
    private static List<Integer> answersOf(WorldHall x) {
        List<Integer> all = new ArrayList<>();
        for (int what = 0; what < 14; what++) {
            all.add(x.count(what));
        }
        for (int s = 0; s < 9; s++) {
            for (int what = 0; what < 7; what++) {
                all.add(x.about(s, what));
            }
            all.add(x.can(s));
            all.add(x.row(s));
            all.add(x.hinders(s, 16));
        }
        for (int c = 0; c < 25; c++) {
            all.add(x.at(c));
        }
        all.add(x.price());
        addDays(all, x);
        addLost(all, x);
        addMarks(all, x);
        addTexts(all, x);
        addVisitors(all, x);
        addSales(all, x);
        addFloor(all, x);
        return all;
    }

    private static void addDays(List<Integer> all, WorldHall x) {
        for (int day = 0; day < 8; day++) {
            all.add(x.cost(day));
        }
        for (int day = 2; day < 6; day++) {
            all.add(x.mean(0, day));
            all.add(x.medal(0, day));
            all.add(x.mean(1, day));
        }
    }

    private static void addLost(List<Integer> all, WorldHall x) {
        for (int minute = 19; minute < 25; minute++) {
            all.add(x.places(minute));
        }
        all.add(x.canBe(2, 20));
        all.add(x.sight(3, 21));
        all.add(x.found());
    }

    private static void addMarks(List<Integer> all, WorldHall x) {
        all.add(x.juror(1, 1));
        all.add(plainStand(x, 6, 6));
        for (int juror = 0; juror < 5; juror++) {
            for (int s = 0; s < 4; s++) {
                all.add(x.mark(juror, s, 1, 999));
            }
        }
    }

    private static void addTexts(List<Integer> all, WorldHall x) {
        all.add(x.text(1, 500));
        all.add(x.cost(500));
        feedAll(x, "pay 1");
        all.add(x.text(1, 999));
        feedAll(x, "gold at 1");
        all.add(x.text(0, 999));
    }

    private static void addVisitors(List<Integer> all, WorldHall x) {
        all.add(x.minute(3, 1));
        all.add(x.most(1));
        for (int what = 6; what < 12; what++) {
            all.add(x.count(what));
        }
    }

    private static void addSales(List<Integer> all, WorldHall x) {
        all.add(x.end(0));
        for (int s = 0; s < 4; s++) {
            all.add(x.hand(s));
        }
        all.add(x.count(13));
    }

    private static void addFloor(List<Integer> all, WorldHall x) {
        all.add(x.clear());
        for (int s = 0; s < 9; s++) {
            all.add(x.take(s));
        }
        for (int c = 0; c < 25; c++) {
            all.add(x.cell(c, PLAIN));
            all.add(x.bears(c, 0));
        }
        all.add(x.aisle(0));
    }

    private void answers(String call, ToIntFunction<WorldHall> asked, int want) {
        WorldHall x = made.get();
        due(name + ": " + call, asked.applyAsInt(x), want);
        List<Integer> then = answersOf(x);
        due(name + ": answers behind " + call, then.size(), untouched.size());
        for (int i = 0; i < Math.min(then.size(), untouched.size()); i++) {
            due(name + ": answer " + i + " behind " + call, then.get(i), untouched.get(i));
        }
    }

    private static void ofANewHall(RefusalsTest fresh) {
        fresh.answers("hinders", x -> x.hinders(0, 0), NONE);
        fresh.answers("lay", x -> x.lay(0, 0), NONE);
        fresh.answers("take", x -> x.take(0), NONE);
        fresh.answers("about", x -> x.about(0, 0), NONE);
        fresh.answers("at", x -> x.at(25), NONE);
        fresh.answers("can", x -> x.can(0), NONE);
        fresh.answers("bring", x -> x.bring(0), NONE);
        fresh.answers("row", x -> x.row(0), NONE);
        fresh.answers("mark", x -> x.mark(0, 0, 5, 5), -5);
        fresh.answers("mean", x -> x.mean(0, 0), NONE);
        fresh.answers("medal", x -> x.medal(0, 0), NONE);
        fresh.answers("cost", x -> x.cost(-1), NONE);
        fresh.answers("canBe, no sight", x -> x.canBe(0, 0), STATE);
        fresh.answers("places, no sight", x -> x.places(0), STATE);
        fresh.answers("sell", x -> x.sell(0, 0), NONE);
        fresh.answers("hand", x -> x.hand(0), NONE);
        fresh.answers("count", x -> x.count(14), NONE);
        fresh.answers("better, nothing is laid", WorldHall::better, 0);
        fresh.answers("clear, nothing is in", WorldHall::clear, 0);
        fresh.answers("found, no sight", WorldHall::found, 0);
        fresh.answers("an empty text of medals", x -> x.text(0, 0), -10);
        fresh.answers("an empty text of days", x -> x.text(1, 0), -10);
        fresh.answers("cell, none such", x -> x.cell(25, WELL), NONE);
        fresh.answers("cell, no kind 4", x -> x.cell(24, 4), BAD);
        fresh.answers("cell, no kind -1", x -> x.cell(24, -1), BAD);
        fresh.answers("cell, a door in the middle", x -> x.cell(12, DOOR), BAD);
        fresh.answers("bears, none such", x -> x.bears(25, 5), NONE);
        fresh.answers("bears 100", x -> x.bears(24, 100), BAD);
        fresh.answers("bears -1", x -> x.bears(24, -1), BAD);
        fresh.answers("aisle 4", x -> x.aisle(4), BAD);
        fresh.answers("aisle -1", x -> x.aisle(-1), BAD);
    }

    private static void ofCells(RefusalsTest laid) {
        laid.answers("cell, some are laid", x -> x.cell(4, WELL), STATE);
        laid.answers("cell, plain again", x -> x.cell(12, PLAIN), STATE);
        laid.answers("cell -1", x -> x.cell(-1, PLAIN), NONE);
        laid.answers("cell 25", x -> x.cell(25, PLAIN), NONE);
        laid.answers("bears, some are laid", x -> x.bears(1, 99), STATE);
        laid.answers("bears, cell -1", x -> x.bears(-1, 99), NONE);
        laid.answers("aisle, some are laid", x -> x.aisle(2), STATE);
        laid.answers("at -1", x -> x.at(-1), NONE);
        laid.answers("at 25", x -> x.at(25), NONE);
    }

    private static void ofStands(RefusalsTest laid) {
        laid.answers("stand, kind 5", x -> x.stand(5, 0, 0, 1, 1, 0), BAD);
        laid.answers("stand, kind -1", x -> x.stand(-1, 0, 0, 1, 1, 0), BAD);
        laid.answers("stand, land 8", x -> x.stand(0, 8, 0, 1, 1, 0), BAD);
        laid.answers("stand, land -1", x -> x.stand(0, -1, 0, 1, 1, 0), BAD);
        laid.answers("stand, class 10", x -> x.stand(0, 0, 10, 1, 1, 0), BAD);
        laid.answers("stand, class -1", x -> x.stand(0, 0, -1, 1, 1, 0), BAD);
        laid.answers("stand, width 5", x -> x.stand(0, 0, 0, 5, 1, 0), BAD);
        laid.answers("stand, width 0", x -> x.stand(0, 0, 0, 0, 1, 0), BAD);
        laid.answers("stand, depth 5", x -> x.stand(0, 0, 0, 1, 5, 0), BAD);
        laid.answers("stand, depth 0", x -> x.stand(0, 0, 0, 1, 0, 0), BAD);
        laid.answers("stand, weight 100", x -> x.stand(0, 0, 0, 1, 1, 100), BAD);
        laid.answers("stand, weight -1", x -> x.stand(0, 0, 0, 1, 1, -1), BAD);
        laid.answers("hinders, stand 3", x -> x.hinders(3, 0), NONE);
        laid.answers("hinders, stand -1", x -> x.hinders(-1, 0), NONE);
        laid.answers("hinders, cell 25", x -> x.hinders(0, 25), NONE);
        laid.answers("hinders, cell -1", x -> x.hinders(0, -1), NONE);
        laid.answers("lay, stand 3", x -> x.lay(3, 20), NONE);
        laid.answers("lay, stand -1", x -> x.lay(-1, 20), NONE);
        laid.answers("lay, cell 25", x -> x.lay(0, 25), NONE);
        laid.answers("lay, cell -1", x -> x.lay(0, -1), NONE);
        laid.answers("take, not laid", x -> x.take(2), NONE);
        laid.answers("take, stand 3", x -> x.take(3), NONE);
        laid.answers("take, stand -1", x -> x.take(-1), NONE);
        laid.answers("about, what 7", x -> x.about(0, 7), NONE);
        laid.answers("about, what -1", x -> x.about(0, -1), NONE);
        laid.answers("about, stand 3", x -> x.about(3, 0), NONE);
        laid.answers("about, stand -1", x -> x.about(-1, 0), NONE);
    }

    private static void ofGoods(RefusalsTest laid, RefusalsTest busy) {
        laid.answers("can, not laid", x -> x.can(2), NONE);
        laid.answers("can, stand 3", x -> x.can(3), NONE);
        laid.answers("bring, not laid", x -> x.bring(2), NONE);
        laid.answers("bring, stand 3", x -> x.bring(3), NONE);
        laid.answers("bring, stand -1", x -> x.bring(-1), NONE);
        laid.answers("row -1", x -> x.row(-1), NONE);
        laid.answers("row 2", x -> x.row(2), NONE);
        busy.answers("bring, they are in", x -> x.bring(0), STATE);
        busy.answers("bring, handed over", x -> x.bring(3), NONE);
        busy.answers("lay, goods are in", x -> x.lay(1, 16), STATE);
        busy.answers("lay where it lies, goods are in", x -> x.lay(1, 8), STATE);
        busy.answers("lay, goods are in, hindered", x -> x.lay(1, 12), STATE);
        busy.answers("take, goods are in", x -> x.take(1), STATE);
        busy.answers("take, sold, goods are in", x -> x.take(0), STATE);
        busy.answers("take, handed over", x -> x.take(3), NONE);
        busy.answers("better, goods are in", WorldHall::better, STATE);
    }

    private static void ofTexts(RefusalsTest laid) {
        laid.answers("feed 0", x -> x.feed(1, 0), BAD);
        laid.answers("feed 9", x -> x.feed(1, 9), BAD);
        laid.answers("feed -1", x -> x.feed(1, -1), BAD);
        laid.answers("text, sort 2", x -> x.text(2, 0), BAD);
        laid.answers("text, sort -1", x -> x.text(-1, 0), BAD);
        laid.answers("text, day 1000", x -> x.text(1, 1000), BAD);
        laid.answers("text, day -1", x -> x.text(1, -1), BAD);
        laid.answers("juror, land 8", x -> x.juror(8, 0), BAD);
        laid.answers("juror, land -1", x -> x.juror(-1, 0), BAD);
        laid.answers("juror, class 10", x -> x.juror(0, 10), BAD);
        laid.answers("juror, class -1", x -> x.juror(0, -1), BAD);
        laid.answers("cost -1", x -> x.cost(-1), NONE);
    }

    private static void ofMarks(RefusalsTest laid) {
        laid.answers("mark, juror 4", x -> x.mark(4, 0, 5, 5), -5);
        laid.answers("mark, juror -1", x -> x.mark(-1, 0, 5, 5), -5);
        laid.answers("mark, stand 3", x -> x.mark(0, 3, 5, 5), -5);
        laid.answers("mark, stand -1", x -> x.mark(0, -1, 5, 5), -5);
        laid.answers("mark 101", x -> x.mark(0, 0, 101, 5), BAD);
        laid.answers("mark -1", x -> x.mark(0, 0, -1, 5), BAD);
        laid.answers("mark, day 1000", x -> x.mark(0, 0, 5, 1000), BAD);
        laid.answers("mark, day -1", x -> x.mark(0, 0, 5, -1), BAD);
        laid.answers("mark, its land", x -> x.mark(2, 0, 5, 5), STATE);
        laid.answers("mark, another class", x -> x.mark(3, 0, 5, 5), STATE);
        laid.answers("mark, another class", x -> x.mark(0, 2, 5, 5), STATE);
        laid.answers("mean, stand 3", x -> x.mean(3, 5), NONE);
        laid.answers("mean, fewer than 2", x -> x.mean(0, 3), NONE);
        laid.answers("medal, stand 3", x -> x.medal(3, 5), NONE);
        laid.answers("medal, stand -1", x -> x.medal(-1, 5), NONE);
    }

    private static void ofMinutes(RefusalsTest laid) {
        laid.answers("most 0", x -> x.most(0), BAD);
        laid.answers("most -1", x -> x.most(-1), BAD);
        laid.answers("most 20001", x -> x.most(20001), BAD);
        laid.answers("minute, 2001 come", x -> x.minute(2001, 0), BAD);
        laid.answers("minute, -1 come", x -> x.minute(-1, 0), BAD);
        laid.answers("minute, 2001 go", x -> x.minute(0, 2001), BAD);
        laid.answers("minute, -1 go", x -> x.minute(0, -1), BAD);
        laid.answers("count 14", x -> x.count(14), NONE);
        laid.answers("count -1", x -> x.count(-1), NONE);
    }

    private static void ofTheLostOne(RefusalsTest laid) {
        laid.answers("sight, cell 25", x -> x.sight(25, 21), NONE);
        laid.answers("sight, cell -1", x -> x.sight(-1, 21), NONE);
        laid.answers("sight in the same minute", x -> x.sight(3, 20), BAD);
        laid.answers("sight ahead", x -> x.sight(3, 19), BAD);
        laid.answers("sight, minute -1", x -> x.sight(3, -1), BAD);
        laid.answers("sight, minute 10001", x -> x.sight(3, 10001), BAD);
        laid.answers("sight, a shaft", x -> x.sight(12, 21), BAD);
        laid.answers("sight, a well", x -> x.sight(24, 21), BAD);
        laid.answers("canBe, cell 25", x -> x.canBe(25, 21), NONE);
        laid.answers("canBe, cell -1", x -> x.canBe(-1, 21), NONE);
        laid.answers("canBe ahead", x -> x.canBe(2, 19), BAD);
        laid.answers("places ahead", x -> x.places(19), BAD);
    }

    private static void ofSales(RefusalsTest laid, RefusalsTest busy) {
        laid.answers("sell, stand 3", x -> x.sell(3, 5), NONE);
        laid.answers("sell, not in", x -> x.sell(0, 5), STATE);
        laid.answers("sell, not laid", x -> x.sell(2, 5), STATE);
        laid.answers("hand, not sold", x -> x.hand(0), STATE);
        laid.answers("hand, stand 3", x -> x.hand(3), NONE);
        laid.answers("end 1000", x -> x.end(1000), BAD);
        laid.answers("end -1", x -> x.end(-1), BAD);
        busy.answers("sell, stand 4", x -> x.sell(4, 5), NONE);
        busy.answers("sell, stand -1", x -> x.sell(-1, 5), NONE);
        busy.answers("sell to 1000", x -> x.sell(1, 1000), BAD);
        busy.answers("sell to -1", x -> x.sell(1, -1), BAD);
        busy.answers("sell, sold", x -> x.sell(0, 8), STATE);
        busy.answers("sell, handed over", x -> x.sell(3, 8), STATE);
        busy.answers("hand, ahead of the end", x -> x.hand(0), STATE);
        busy.answers("hand, handed over already", x -> x.hand(3), STATE);
        busy.answers("hand, not sold", x -> x.hand(1), STATE);
        busy.answers("hand, stand 4", x -> x.hand(4), NONE);
        busy.answers("hand, stand -1", x -> x.hand(-1), NONE);
    }

    private static void ofAFullHall(RefusalsTest full) {
        full.answers("stand", x -> x.stand(0, 0, 0, 1, 1, 0), FULL);
        full.answers("juror", x -> x.juror(0, 0), FULL);
        full.answers("text of medals", x -> x.text(0, 0), FULL);
        full.answers("text of days", x -> x.text(1, 999), FULL);
        full.answers("feed 1", x -> x.feed('x', 1), FULL);
        full.answers("feed 8", x -> x.feed('x', 8), FULL);
        full.answers("sight", x -> x.sight(3, 21), FULL);
    }

    private static void ofSeveralTheFirst(RefusalsTest laid, RefusalsTest busy, RefusalsTest full) {
        laid.answers("cell: none, bad, state", x -> x.cell(25, 4), NONE);
        laid.answers("cell: none, bad door, state", x -> x.cell(25, DOOR), NONE);
        laid.answers("cell: none, state", x -> x.cell(-1, WELL), NONE);
        laid.answers("cell: bad, state", x -> x.cell(4, 4), BAD);
        laid.answers("cell: bad door, state", x -> x.cell(16, DOOR), BAD);
        laid.answers("bears: none, bad, state", x -> x.bears(25, 100), NONE);
        laid.answers("bears: none, state", x -> x.bears(25, 10), NONE);
        laid.answers("bears: bad, state", x -> x.bears(4, 100), BAD);
        laid.answers("aisle: bad, state", x -> x.aisle(4), BAD);
        full.answers("stand: bad kind, full", x -> x.stand(5, 0, 0, 1, 1, 0), BAD);
        full.answers("stand: bad land, full", x -> x.stand(0, 8, 0, 1, 1, 0), BAD);
        full.answers("stand: bad class, full", x -> x.stand(0, 0, 10, 1, 1, 0), BAD);
        full.answers("stand: bad width, full", x -> x.stand(0, 0, 0, 0, 1, 0), BAD);
        full.answers("stand: bad depth, full", x -> x.stand(0, 0, 0, 1, 5, 0), BAD);
        full.answers("stand: bad weight, full", x -> x.stand(0, 0, 0, 1, 1, 100), BAD);
        busy.answers("hinders: no stand, no cell", x -> x.hinders(9, 25), NONE);
        busy.answers("lay: no cell, state", x -> x.lay(0, 25), NONE);
        busy.answers("lay: no cell, state", x -> x.lay(0, -1), NONE);
        busy.answers("lay: state, hindered", x -> x.lay(0, 24), STATE);
        full.answers("feed: bad, full", x -> x.feed('x', 9), BAD);
        full.answers("text: bad day, full", x -> x.text(0, 1000), BAD);
        full.answers("text: bad day, full", x -> x.text(1, -1), BAD);
        full.answers("text: bad sort, full", x -> x.text(2, 0), BAD);
        full.answers("juror: bad, full", x -> x.juror(0, 10), BAD);
        laid.answers("mark: no juror, bad", x -> x.mark(4, 0, 101, 5), -5);
        laid.answers("mark: no stand, bad", x -> x.mark(0, 3, 5, 1000), -5);
        laid.answers("mark: neither, both bad", x -> x.mark(4, 3, 101, 1000), -5);
        laid.answers("mark: bad, its land", x -> x.mark(2, 0, 101, 5), BAD);
        laid.answers("mark: bad day, another class", x -> x.mark(3, 0, 5, 1000), BAD);
        laid.answers("sight: none, bad", x -> x.sight(25, 20), NONE);
        full.answers("sight: none, bad, full", x -> x.sight(25, 20), NONE);
        full.answers("sight: none, full", x -> x.sight(25, 21), NONE);
        full.answers("sight: bad minute, full", x -> x.sight(3, 20), BAD);
        full.answers("sight: bad minute above, full", x -> x.sight(3, 10001), BAD);
        full.answers("sight: a shaft, full", x -> x.sight(12, 21), BAD);
        laid.answers("canBe: none, bad", x -> x.canBe(25, 19), NONE);
        busy.answers("sell: none, bad", x -> x.sell(4, 1000), NONE);
        busy.answers("sell: bad, sold", x -> x.sell(0, 1000), BAD);
        busy.answers("sell: bad, not in", x -> x.sell(2, -1), BAD);
    }

    private static void thatOnlyAsk(RefusalsTest... halls) {
        for (RefusalsTest one : halls) {
            WorldHall twin = one.made.get();
            one.answers("hinders", x -> x.hinders(0, 3), twin.hinders(0, 3));
            one.answers("about", x -> x.about(0, 3), twin.about(0, 3));
            one.answers("at", x -> x.at(6), twin.at(6));
            one.answers("price", WorldHall::price, twin.price());
            one.answers("can", x -> x.can(0), twin.can(0));
            one.answers("row", x -> x.row(0), twin.row(0));
            one.answers("mean", x -> x.mean(0, 5), twin.mean(0, 5));
            one.answers("medal", x -> x.medal(0, 5), twin.medal(0, 5));
            one.answers("cost", x -> x.cost(5), twin.cost(5));
            one.answers("canBe", x -> x.canBe(3, 30), twin.canBe(3, 30));
            one.answers("places", x -> x.places(30), twin.places(30));
            one.answers("count", x -> x.count(0), 25);
        }
    }

    private static void thatAreHindered(RefusalsTest laid, RefusalsTest busy) {
        laid.answers("lay, beyond", x -> x.lay(2, 4), 1);
        laid.answers("lay, a shaft", x -> x.lay(0, 12), 2);
        laid.answers("lay, another's", x -> x.lay(0, 8), 3);
        laid.answers("lay, too near", x -> x.lay(2, 10), 4);
        laid.answers("lay, in the middle", x -> x.lay(2, 16), 6);
        laid.answers("lay where it lies", x -> x.lay(0, 6), 0);
        busy.answers("lay one that is not laid, another's", x -> x.lay(3, 6), 3);
        laid.answers("the same MOST", x -> x.most(10), 10);
        laid.answers("the same end", x -> x.end(3), 3);
        laid.answers("the same mark", x -> x.mark(0, 0, 80, 3), 80);
    }
}
