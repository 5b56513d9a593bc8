/** The edges that the document names of minutes, the lost one and sales (its part 4, promises 24 to 34), a sentence each. */
public final class MinuteEdgesTest extends Bench {
    public static void main(String[] args) {
        mostNumbers();
        notMoreThanMost();
        greatestMost();
        comeAndGoNumbers();
        allIfTheyAreFewer();
        waitOutside();
        takings();
        takingsOfADay();
        theBell();
        manyMinutes();
        manyDays();
        sixHundredMinutes();
        day999();
        sightNumbers();
        sightsRise();
        tenSights();
        sightOnACell();
        notAheadOfTheLatest();
        noSight();
        besideOrStays();
        noShaftWellStand();
        sightItself();
        fromTheLatest();
        placesOfAll();
        foundAgain();
        buyers();
        soldOnce();
        endAtFirst();
        endNumbers();
        handedOver();
        handedOverAlready();
        counts();
        finish();
    }

    private static void mostNumbers() {
        says("MOST inside (1 .. 20000, 1000 at first)");
        WorldHall x = hallOf(3, 3);
        due("0", x.most(0), BAD);
        due("20001", x.most(20001), BAD);
        due("-1", x.most(-1), BAD);
        due("far", x.most(LEAST), BAD);
        due("far", x.most(GREATEST), BAD);
        due("1000 at first", x.most(1), 1000);
        due("1 was taken", x.most(20000), 1);
        due("20000 was taken", x.most(20000), 20000);
    }

    private static void notMoreThanMost() {
        says("those that come enter as long as there are not more than MOST inside");
        WorldHall x = hallOf(3, 3);
        x.most(10);
        due("9", x.minute(9, 0), 9);
        due("10", x.minute(1, 0), 10);
        due("nobody waits", x.count(9), 0);
        due("no eleventh", x.minute(1, 0), 10);
        due("one waits", x.count(9), 1);
        x.most(11);
        due("nobody enters without a minute", x.count(8), 10);
        due("the eleventh", x.minute(0, 0), 11);
        x.most(5);
        due("nobody is sent out", x.minute(3, 0), 11);
        due("nobody enters", x.minute(0, 6), 5);
        due("three wait", x.count(9), 3);
        due("one goes, one enters", x.minute(0, 1), 5);
        due("two wait", x.count(9), 2);
        WorldHall y = hallOf(3, 3);
        due("1000 at first", y.minute(1001, 0), 1000);
        due("the thousand and first", y.count(9), 1);
    }

    private static void greatestMost() {
        says("(1 .. 20000, 1000 at first)");
        WorldHall x = hallOf(3, 3);
        x.most(20000);
        textOf(x, 1, 0, "pay 999");
        for (int i = 1; i <= 10; i++) {
            due("2000 more", x.minute(2000, 0), 2000 * i);
        }
        due("the hall is full", x.minute(1, 0), 20000);
        due("one waits", x.count(9), 1);
        due("takings", x.count(10), 20000 * 999);
        x.most(1);
        for (int i = 1; i <= 9; i++) {
            due("2000 go", x.minute(0, 2000), 20000 - 2000 * i);
        }
        due("one of 1 enters", x.minute(2000, 2000), 1);
        due("as many wait", x.count(9), 2000);
    }

    private static void comeAndGoNumbers() {
        says("BAD: come, go (0 .. 2000); FULL: 600 MINUTES were.");
        WorldHall x = hallOf(3, 3);
        int[] wrong = {-1, 2001, LEAST, GREATEST};
        for (int n : wrong) {
            due("come " + n, x.minute(n, 0), BAD);
            due("go " + n, x.minute(0, n), BAD);
            due("both " + n, x.minute(n, n), BAD);
        }
        due("no minute went by", x.count(7), 0);
        due("none and none", x.minute(0, 0), 0);
        due("a minute went by", x.count(7), 1);
        due("2000 come", x.minute(2000, 0), 1000);
        due("2000 go, the others enter", x.minute(0, 2000), 1000);
        due("2000 come and go", x.minute(2000, 2000), 1000);
        due("four minutes", x.count(7), 4);
    }

    private static void allIfTheyAreFewer() {
        says("those that go (all, if they are fewer) go");
        int[] go = {0, 4, 5, 6, 2000};
        int[] left = {5, 1, 0, 0, 0};
        for (int i = 0; i < go.length; i++) {
            WorldHall x = hallOf(3, 3);
            x.minute(5, 0);
            due(go[i] + " of 5 go", x.minute(0, go[i]), left[i]);
            due("none of those that come", x.minute(3, 2000), 3);
        }
        WorldHall y = hallOf(3, 3);
        due("nobody is there to go", y.minute(0, 2000), 0);
        y.most(2);
        y.minute(5, 0);
        due("those outside do not go", y.minute(0, 2000), 2);
        due("one waits", y.count(9), 1);
    }

    private static void waitOutside() {
        says("the others wait outside; they enter ahead of new ones");
        WorldHall x = hallOf(3, 3);
        x.most(10);
        due("ten enter", x.minute(25, 0), 10);
        due("fifteen wait", x.count(9), 15);
        due("ten go, ten of those enter", x.minute(0, 10), 10);
        due("five wait", x.count(9), 5);
        due("new ones come behind them", x.minute(7, 4), 10);
        due("eight wait", x.count(9), 8);
        due("all go, eight enter", x.minute(0, 2000), 8);
        due("nobody waits", x.count(9), 0);
    }

    private static void takings() {
        says("TAKINGS are COSTS of those that enter");
        WorldHall x = hallOf(3, 3);
        x.most(10);
        x.minute(4, 0);
        due("without a text they pay nothing", x.count(10), 0);
        textOf(x, 1, 0, "pay 3");
        due("those inside have entered already", x.count(10), 0);
        x.minute(20, 0);
        due("six enter", x.count(10), 18);
        textOf(x, 1, 0, "pay 5 on 0,999");
        x.minute(0, 7);
        due("seven of those that waited enter, for the cost of now", x.count(10), 18 + 35);
        x.minute(0, 0);
        due("nobody enters", x.count(10), 53);
        textOf(x, 1, 1, "pay 7");
        x.minute(0, 1);
        due("a text of the next day is not in force", x.count(10), 58);
    }

    private static void takingsOfADay() {
        says("10 TAKINGS of this DAY, 11 TAKINGS of all");
        WorldHall x = hallOf(3, 3);
        textOf(x, 1, 0, "pay 1 on 0,10 on 1,100");
        int all = 0;
        for (int day = 0; day < 15; day++) {
            int each = day % 7 == 0 ? 1 : day % 7 == 1 ? 10 : 100;
            due("at the begin of the day", x.count(10), 0);
            x.minute(2, 0);
            x.minute(1, 0);
            all += 3 * each;
            due("of day " + day, x.count(10), 3 * each);
            due("of all", x.count(11), all);
            due("the next day", x.bell(), day + 1);
        }
        due("of all", x.count(11), all);
    }

    private static void theBell() {
        says("THE BELL: all are out, nobody waits, the next DAY begins.");
        WorldHall x = hallOf(3, 3);
        due("day 0 at first", x.count(6), 0);
        due("day 1", x.bell(), 1);
        due("day 2", x.bell(), 2);
        x.most(5);
        x.minute(12, 0);
        due("five inside", x.count(8), 5);
        due("seven wait", x.count(9), 7);
        due("day 3", x.bell(), 3);
        due("day 3", x.count(6), 3);
        due("no minute yet", x.count(7), 0);
        due("all are out", x.count(8), 0);
        due("nobody waits", x.count(9), 0);
        due("nobody enters", x.minute(0, 0), 0);
        due("MOST is as it was", x.most(5), 5);
    }

    private static void manyMinutes() {
        says("A MINUTE goes by; how many are inside.");
        WorldHall x = hallOf(3, 3);
        for (int i = 0; i < 510; i++) {
            due("minute " + i, x.minute(1, 0), i + 1);
        }
        due("as many minutes as an object's calls leave", x.count(7), 510);
    }

    private static void manyDays() {
        says("THE BELL: which DAY it is then.");
        WorldHall x = hallOf(3, 3);
        for (int day = 1; day <= 510; day++) {
            due("day", x.bell(), day);
        }
        due("as many days as an object's calls leave", x.count(6), 510);
    }

    /** It takes more than the 512 calls for which answers are promised: so much is the class's own word. */
    private static void sixHundredMinutes() {
        says("FULL: 600 MINUTES were.");
        WorldHall x = hallOf(3, 3);
        for (int i = 0; i < 600; i++) {
            due("minute " + i, x.minute(0, 0), 0);
        }
        due("600 were", x.minute(1, 0), FULL);
        due("bad ahead of full", x.minute(2001, 0), BAD);
        due("nobody came", x.count(8), 0);
        due("600", x.count(7), 600);
        due("the next day", x.bell(), 1);
        due("it has minutes of its own", x.minute(1, 0), 1);
    }

    /** This, too, takes more than 512 calls. */
    private static void day999() {
        says("FULL: 999 is over.");
        WorldHall x = hallOf(3, 3);
        for (int day = 1; day <= 999; day++) {
            due("day", x.bell(), day);
        }
        x.minute(3, 0);
        due("there is no day 1000", x.bell(), FULL);
        due("day 999", x.count(6), 999);
        due("its minutes", x.count(7), 1);
        due("nobody was sent out", x.count(8), 3);
    }

    private static void sightNumbers() {
        says("BAD: not behind the latest one (0 .. 10000), a SHAFT or WELL; FULL.");
        WorldHall x = hallOf(3, 3);
        due("minute -1", x.sight(0, -1), BAD);
        due("minute 10001", x.sight(0, 10001), BAD);
        due("far", x.sight(0, LEAST), BAD);
        due("far", x.sight(0, GREATEST), BAD);
        due("cell -1", x.sight(-1, 0), NONE);
        due("cell 9", x.sight(9, 0), NONE);
        due("far", x.sight(LEAST, 0), NONE);
        due("far", x.sight(GREATEST, 0), NONE);
        due("there is none", x.found(), 0);
        due("cell 0, minute 0", x.sight(0, 0), 1);
        due("cell 8, minute 10000", x.sight(8, 10000), 2);
        due("none can be behind it", x.sight(8, 10001), BAD);
        due("two", x.found(), 2);
    }

    private static void sightsRise() {
        says("(10 at most, rising)");
        WorldHall x = hallOf(3, 3);
        x.sight(4, 100);
        due("the same minute", x.sight(4, 100), BAD);
        due("the same minute elsewhere", x.sight(0, 100), BAD);
        due("a minute ahead", x.sight(4, 99), BAD);
        due("minute 0", x.sight(4, 0), BAD);
        due("a minute behind", x.sight(0, 101), 2);
        due("not behind the latest, though behind the first", x.sight(4, 101), BAD);
        due("it need not be reached from the one ahead", x.sight(8, 102), 3);
        due("the latest counts", x.canBe(8, 102), 1);
    }

    private static void tenSights() {
        says("SIGHTS of a LOST one: a CELL and a MINUTE (10 at most, rising)");
        WorldHall x = hallOf(3, 3);
        for (int i = 1; i <= 10; i++) {
            due("how many", x.sight(4, 10 * i), i);
        }
        due("an eleventh", x.sight(0, 101), FULL);
        due("an eleventh in the last minute", x.sight(0, 10000), FULL);
        due("the latest is as it was", x.canBe(4, 100), 1);
        due("nor is it elsewhere", x.canBe(0, 101), 0);
        due("ten", x.found(), 10);
        due("none", x.found(), 0);
        for (int i = 1; i <= 10; i++) {
            due("ten more", x.sight(4, i), i);
        }
        due("an eleventh", x.sight(4, 11), FULL);
    }

    private static void sightOnACell() {
        says("a SHAFT or WELL; FULL.");
        for (int kind = PLAIN; kind <= WELL; kind++) {
            WorldHall x = hallOf(3, 3);
            x.cell(5, kind);
            due("kind " + kind, x.sight(5, 0), kind <= DOOR ? 1 : BAD);
            due("how many", x.found(), kind <= DOOR ? 1 : 0);
        }
        WorldHall y = hallOf(3, 3);
        plainStand(y, 0, 0);
        y.lay(0, 4);
        due("on a laid stand", y.sight(4, 0), 1);
    }

    private static void notAheadOfTheLatest() {
        says("NONE; BAD: ahead of the latest SIGHT; STATE: no SIGHT.");
        WorldHall x = hallOf(3, 3);
        x.sight(4, 50);
        int[] ahead = {49, 0, -1, LEAST};
        for (int minute : ahead) {
            due("can be, minute " + minute, x.canBe(4, minute), BAD);
            due("places, minute " + minute, x.places(minute), BAD);
        }
        due("can be, its minute", x.canBe(4, 50), 1);
        due("places, its minute", x.places(50), 1);
        x.sight(0, 51);
        due("can be, ahead of the latest", x.canBe(4, 50), BAD);
        due("places, ahead of the latest", x.places(50), BAD);
        due("can be, beyond the last minute of a sight", x.canBe(8, 10001), 1);
        due("places, beyond it", x.places(10001), 9);
        due("can be, the greatest minute", x.canBe(8, GREATEST), 1);
        due("places, the greatest minute", x.places(GREATEST), 9);
        due("no cell", x.canBe(9, 51), NONE);
        due("nor that", x.canBe(-1, 51), NONE);
        WorldHall y = hallOf(3, 3);
        y.sight(0, 0);
        due("from minute 0 to the greatest", y.places(GREATEST), 9);
    }

    private static void noSight() {
        says("STATE: no SIGHT.");
        WorldHall x = hallOf(3, 3);
        int[] minutes = {0, 1, 10000, GREATEST};
        for (int round = 0; round < 2; round++) {
            for (int minute : minutes) {
                due("can be", x.canBe(4, minute), STATE);
                due("places", x.places(minute), STATE);
            }
            due("no cell", x.canBe(9, 0), NONE);
            x.sight(4, 9);
            x.found();
        }
    }

    private static void besideOrStays() {
        says("in a MINUTE it goes to a CELL BESIDE, or stays");
        for (int from = 0; from < 20; from++) {
            WorldHall x = hallOf(5, 4);
            x.sight(from, 7);
            for (int step = 0; step < 2; step++) {
                int places = 0;
                for (int c = 0; c < 20; c++) {
                    int far = Math.abs(c % 5 - from % 5) + Math.abs(c / 5 - from / 5);
                    places += far <= step ? 1 : 0;
                    due("from " + from + " to " + c, x.canBe(c, 7 + step), far <= step ? 1 : 0);
                }
                due("places from " + from, x.places(7 + step), places);
            }
        }
    }

    private static void noShaftWellStand() {
        says("on CELLS that are no SHAFT, WELL, nor of a LAID STAND");
        for (int hindrance = 0; hindrance < 4; hindrance++) {
            WorldHall x = hallOf(3, 3);
            x.cell(3, SHAFT);
            x.cell(5, WELL);
            if (hindrance == 1 || hindrance == 2) {
                x.cell(4, hindrance == 1 ? SHAFT : WELL);
            }
            plainStand(x, 0, 0);
            if (hindrance == 3) {
                x.lay(0, 4);
            }
            x.sight(1, 0);
            due("onto it", x.canBe(4, 1000), hindrance == 0 ? 1 : 0);
            due("past it", x.canBe(7, 1000), hindrance == 0 ? 1 : 0);
            due("places", x.places(1000), hindrance == 0 ? 7 : 3);
        }
        WorldHall y = withDoor();
        plainStand(y, 0, 0);
        y.lay(0, 12);
        y.bring(0);
        y.sight(7, 0);
        due("round the stand, not yet", y.canBe(17, 3), 0);
        due("round the stand", y.canBe(17, 4), 1);
        y.clear();
        due("goods do not matter", y.canBe(17, 3), 0);
        y.take(0);
        due("taken up", y.canBe(17, 2), 1);
    }

    private static void sightItself() {
        says("(but that of a SIGHT itself)");
        WorldHall x = hallOf(5, 3);
        sizedStand(x, 3, 3);
        x.lay(0, 1);
        x.sight(6, 0);
        due("on the stand", x.canBe(6, 0), 1);
        due("it may stay", x.canBe(6, 5), 1);
        due("it may leave", x.canBe(5, 1), 1);
        due("not to another cell of the stand", x.canBe(7, 1), 0);
        due("nor through it", x.canBe(9, 1000), 0);
        due("places", x.places(1000), 4);
        x.sight(5, 10);
        due("the latest is elsewhere: the stand is shut", x.canBe(6, 11), 0);
        due("places", x.places(1000), 3);
        x.sight(7, 20);
        due("shut in by the stand", x.places(1000), 1);
    }

    private static void fromTheLatest() {
        says("(not ahead of the latest SIGHT) if it can come there from that.");
        WorldHall x = hallOf(8, 3);
        x.sight(0, 0);
        x.sight(7, 100);
        due("where it was", x.canBe(0, 100), 0);
        due("not yet back", x.canBe(0, 106), 0);
        due("back", x.canBe(0, 107), 1);
        x.sight(0, 101);
        due("from there", x.canBe(7, 107), 0);
        due("from there", x.canBe(7, 108), 1);
    }

    private static void placesOfAll() {
        says("At how many CELLS it CAN BE. BAD, STATE likewise.");
        WorldHall x = hallOf(8, 8);
        x.sight(0, 1);
        int[] want = {1, 3, 6, 10, 15, 21, 28, 36, 43, 49, 54, 58, 61, 63, 64, 64};
        for (int i = 0; i < want.length; i++) {
            due("minute " + i, x.places(1 + i), want[i]);
        }
        WorldHall far = hallOf(8, 8);
        for (int line = 1; line < 8; line += 2) {
            for (int i = 0; i < 7; i++) {
                far.cell(8 * line + (line % 4 == 1 ? i : i + 1), WELL);
            }
        }
        far.sight(0, 0);
        for (int i = 0; i <= 35; i++) {
            due("the longest way, minute " + i, far.places(i), i + 1);
        }
        due("no more", far.places(36), 36);
        due("the end of the way", far.canBe(56, 35), 1);
        due("not yet", far.canBe(56, 34), 0);
    }

    private static void foundAgain() {
        says("It is found: how many SIGHTS there were (none then).");
        WorldHall x = hallOf(3, 3);
        due("none", x.found(), 0);
        x.sight(4, 10000);
        due("one", x.found(), 1);
        due("none then", x.found(), 0);
        due("minute 0 is behind none", x.sight(4, 0), 1);
        due("one", x.found(), 1);
    }

    private static void buyers() {
        says("A SALE of a STAND's goods to somebody (0 .. 999), once");
        WorldHall x = withDoor();
        for (int s = 0; s < 2; s++) {
            plainStand(x, s, 0);
            x.lay(s, 12 + s);
            x.bring(s);
        }
        int[] wrong = {-1, 1000, LEAST, GREATEST};
        for (int who : wrong) {
            due("to " + who, x.sell(0, who), BAD);
        }
        due("not sold", x.about(0, 5), NONE);
        due("to 0", x.sell(0, 0), 0);
        due("to 999", x.sell(1, 999), 0);
        due("to whom", x.about(0, 5), 0);
        due("to whom", x.about(1, 5), 999);
        due("the next number", x.sell(2, 5), NONE);
        due("the number ahead", x.sell(-1, 5), NONE);
        due("far", x.sell(LEAST, 5), NONE);
        due("far", x.sell(GREATEST, 5), NONE);
    }

    private static void soldOnce() {
        says("STATE: it is SOLD, or its GOODS are not in.");
        WorldHall x = withDoor();
        plainStand(x, 0, 0);
        due("not laid", x.sell(0, 5), STATE);
        x.lay(0, 12);
        due("not in", x.sell(0, 5), STATE);
        x.bring(0);
        due("in", x.sell(0, 5), 0);
        due("sold", x.sell(0, 6), STATE);
        due("sold to the same", x.sell(0, 5), STATE);
        due("to the first", x.about(0, 5), 5);
        x.clear();
        due("sold and not in", x.sell(0, 6), STATE);
        due("sold it stays", x.about(0, 5), 5);
        x.bring(0);
        due("in again, but sold", x.sell(0, 6), STATE);
    }

    /** A hall on day 0 with one stand that is sold to 7. */
    private static WorldHall sold() {
        WorldHall x = withDoor();
        plainStand(x, 0, 0);
        x.lay(0, 12);
        x.bring(0);
        x.sell(0, 7);
        return x;
    }

    private static void endAtFirst() {
        says("HANDED OVER from THE END (a day, 180 at first) on");
        WorldHall x = sold();
        for (int day = 0; day < 180; day++) {
            due("day " + day, x.hand(0), STATE);
            x.bell();
        }
        due("sold and in still", x.about(0, 4), 1);
        due("day 180", x.hand(0), 7);
        WorldHall y = sold();
        for (int day = 0; day < 181; day++) {
            y.bell();
        }
        due("a day behind the end", y.hand(0), 7);
    }

    private static void endNumbers() {
        says("THE END: what it was. BAD: not 0 .. 999.");
        WorldHall x = sold();
        int[] wrong = {-1, 1000, LEAST, GREATEST};
        for (int day : wrong) {
            due("day " + day, x.end(day), BAD);
        }
        due("180 at first", x.end(999), 180);
        due("999 was taken", x.end(1), 999);
        due("ahead of it", x.hand(0), STATE);
        due("1 was taken", x.end(0), 1);
        due("on it", x.hand(0), 7);
        due("0 was taken", x.end(0), 0);
    }

    private static void handedOver() {
        says("its GOODS are out, it is not LAID any more (SOLD it stays): to whom");
        WorldHall x = sold();
        x.end(0);
        plainStand(x, 1, 0);
        x.lay(1, 13);
        x.bring(1);
        due("no stand", x.hand(2), NONE);
        due("nor that", x.hand(-1), NONE);
        due("far", x.hand(LEAST), NONE);
        due("far", x.hand(GREATEST), NONE);
        due("not sold", x.hand(1), STATE);
        due("none handed over", x.count(13), 0);
        due("handed over", x.hand(0), 7);
        due("out", x.about(0, 4), 0);
        due("not laid", x.about(0, 3), NONE);
        due("not there", x.at(12), NONE);
        due("sold", x.about(0, 5), 7);
        due("one laid", x.count(2), 1);
        due("one in", x.count(3), 1);
        due("one handed over", x.count(13), 1);
        due("it can't be taken up", x.take(0), NONE);
        due("nor brought", x.bring(0), NONE);
        due("the other is as it was", x.about(1, 3), 13);
        due("its goods, too", x.about(1, 4), 1);
    }

    private static void handedOverAlready() {
        says("STATE: not SOLD, HANDED OVER already, or ahead of THE END.");
        WorldHall x = sold();
        x.end(0);
        x.hand(0);
        due("already", x.hand(0), STATE);
        x.lay(0, 6);
        x.bring(0);
        due("already, though in again", x.hand(0), STATE);
        due("it stays laid", x.about(0, 3), 6);
        due("it stays in", x.about(0, 4), 1);
        due("it can't be sold again", x.sell(0, 8), STATE);
        due("one", x.count(13), 1);
        WorldHall y = sold();
        y.end(0);
        y.clear();
        due("sold, goods out", y.hand(0), 7);
        due("not laid", y.about(0, 3), NONE);
        WorldHall z = sold();
        z.end(0);
        z.clear();
        z.take(0);
        due("sold, taken up", z.hand(0), 7);
        due("one", z.count(13), 1);
    }

    private static void counts() {
        says("12 bytes of THE TAPE, 13 HANDED OVER. NONE.");
        WorldHall x = hallOf(3, 3);
        due("what -1", x.count(-1), NONE);
        due("what 14", x.count(14), NONE);
        due("far", x.count(LEAST), NONE);
        due("far", x.count(GREATEST), NONE);
        due("cells", x.count(0), 9);
        for (int what = 1; what < 14; what++) {
            due("at first, what " + what, x.count(what), 0);
        }
    }
}
