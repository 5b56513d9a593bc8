/** The edges that the document names of texts, juries and days (its part 3, promises 17 to 23), a sentence each. */
public final class TextEdgesTest extends Bench {
    private static final int MEDALS = 0, DAYS = 1;
    private static final String[] GOOD_MEDALS = {"gold at 0", "silver at 99", "bronze at 999", "gold at 90,bronze at 60",
        "gold at 1,silver at 2", "silver at 007,bronze at 10", "gold at 100,silver at 50,bronze at 0"};
    private static final String[] GOOD_DAYS = {"pay 0", "pay 99", "pay 999", "pay 5 on 0,7", "pay 100 on 6,99 on 6,1",
        "pay 1 on 0,22 on 3,333 on 4,4", "pay 1 on 0,22 on 3,333 on 4,4 on 6,555"};

    public static void main(String[] args) {
        feedNumbers();
        feedOrder();
        tapeIsFull();
        goodTexts();
        endsTooEarly();
        eachByteOfAll();
        digitsOfN();
        namesOnceInOrder();
        weekdays();
        fourSuchAtMost();
        blanks();
        faultFarOff();
        textNumbers();
        tapeIsEmptyThen();
        nothingIsLeftOfAFault();
        sixOfASort();
        fromADayOn();
        tillALaterOne();
        jurorNumbers();
        twelveAtMost();
        noneSuch();
        markNumbers();
        landAndClass();
        newerTakesItsPlace();
        onThatDayOrAhead();
        meanIsCut();
        twoAtLeast();
        meanOfNone();
        nOrMore();
        firstName();
        medalOfNone();
        costOfADay();
        costWithoutText();
        finish();
    }

    private static void feedNumbers() {
        says("BAD: n not 1 .. 8; FULL.");
        WorldHall x = hallOf(3, 3);
        int[] wrong = {0, 9, -1, -8, 64, LEAST, GREATEST};
        for (int n : wrong) {
            due("n " + n, x.feed(7, n), BAD);
            due("none came", x.count(12), 0);
        }
        due("n 1", x.feed(7, 1), 1);
        due("n 8", x.feed(7, 8), 9);
    }

    private static void feedOrder() {
        says("The n lowest bytes of w, the highest first, come behind THE TAPE's: how many it has.");
        String words = "pay 7 on 3,81 on 4,9";
        for (int n = 1; n <= 8; n++) {
            WorldHall x = hallOf(3, 3);
            for (int i = 0; i < words.length(); ) {
                int much = Math.min(n, words.length() - i);
                // what stands above the n lowest bytes must not matter
                long word = -1L;
                for (int j = 0; j < much; j++) {
                    word = word << 8 | words.charAt(i + j);
                }
                i += much;
                due("how many", x.feed(word, much), i);
            }
            due("read", x.text(DAYS, 0), 1);
            due("weekday 3", x.cost(3), 7);
            due("weekday 4", x.cost(4), 81);
            due("another", x.cost(5), 9);
        }
        WorldHall y = hallOf(3, 3);
        y.feed(0xFFFFFFFFFFFFFFFFL, 8);
        due("bytes above 127 are none of a text's", y.text(DAYS, 0), -10);
    }

    private static void tapeIsFull() {
        says("A TEXT is read from THE TAPE (bytes, 120 at most).");
        for (int n = 1; n <= 8; n++) {
            WorldHall x = hallOf(3, 3);
            for (int i = 1; i <= 120 / n; i++) {
                due("there is room", x.feed(0, n), i * n);
            }
            int left = 120 % n;
            for (int more = left + 1; more <= 8; more++) {
                due("no room for " + more, x.feed(0, more), FULL);
            }
            due("none of them came", x.count(12), 120 - left);
            if (left > 0) {
                due("room for as many as are left", x.feed(0, left), 120);
            }
            due("no room for one", x.feed(0, 1), FULL);
            due("120", x.count(12), 120);
        }
        WorldHall y = hallOf(3, 3);
        feedAll(y, "pay 123" + "4".repeat(113));
        due("120 are read", y.text(DAYS, 0), -10 - 7);
        due("there is room again", y.feed(0, 8), 8);
    }

    private static void goodTexts() {
        says("how many of the sort there are");
        for (String words : GOOD_MEDALS) {
            due(words, textOf(hallOf(3, 3), MEDALS, 0, words), 1);
            due(words + " is none of days", textOf(hallOf(3, 3), DAYS, 0, words), -10);
        }
        for (String words : GOOD_DAYS) {
            due(words, textOf(hallOf(3, 3), DAYS, 0, words), 1);
            due(words + " is none of medals", textOf(hallOf(3, 3), MEDALS, 0, words), -10);
        }
    }

    /** A beginning is a text of its own if a number ends it that is no weekday. */
    private static boolean isWhole(String begin) {
        boolean digit = !begin.isEmpty() && Character.isDigit(begin.charAt(begin.length() - 1));
        return digit && !begin.matches(".* on [0-6]");
    }

    private static void endsTooEarly() {
        says("(the end of THE TAPE, if it ends too early)");
        for (int sort = 0; sort < 2; sort++) {
            for (String words : sort == MEDALS ? GOOD_MEDALS : GOOD_DAYS) {
                for (int n = 0; n <= words.length(); n++) {
                    String begin = words.substring(0, n);
                    due("'" + begin + "'", textOf(hallOf(3, 3), sort, 0, begin), isWhole(begin) ? 1 : -10 - n);
                }
            }
        }
    }

    /** Each byte at each place of the texts, against the second writing of the document. */
    private static void eachByteOfAll() {
        says("The FAULT is the place of the first byte with which none begins so");
        for (int sort = 0; sort < 2; sort++) {
            for (String words : sort == MEDALS ? GOOD_MEDALS : GOOD_DAYS) {
                for (int at = 0; at <= words.length(); at++) {
                    for (int b = 0; b < 256; b++) {
                        String other = words.substring(0, at) + (char) b + words.substring(Math.min(at + 1, words.length()));
                        PlainHall plain = new PlainHall(0, 0);
                        plain.tape = other;
                        due("byte " + b + " at " + at + " of " + words, textOf(hallOf(3, 3), sort, 0, other), plain.text(sort, 0));
                    }
                }
            }
        }
    }

    private static void faultOf(int sort, String words, int place) {
        WorldHall x = hallOf(3, 3);
        due("fault of '" + words + "'", textOf(x, sort, 0, words), -10 - place);
        due("none was told", textOf(x, sort, 0, sort == MEDALS ? "gold at 1" : "pay 1"), 1);
    }

    private static void digitsOfN() {
        says("N 1 to 3 digits");
        faultOf(MEDALS, "gold at ", 8);
        faultOf(MEDALS, "gold at ,silver at 1", 8);
        faultOf(MEDALS, "gold at 1000", 11);
        faultOf(MEDALS, "gold at 0000", 11);
        faultOf(MEDALS, "gold at 1,silver at 1000", 23);
        faultOf(MEDALS, "gold at -1", 8);
        faultOf(MEDALS, "gold at /", 8);
        faultOf(MEDALS, "gold at :", 8);
        faultOf(MEDALS, "gold at 1:", 9);
        faultOf(DAYS, "pay ", 4);
        faultOf(DAYS, "pay on 1,2", 4);
        faultOf(DAYS, "pay 1000", 7);
        faultOf(DAYS, "pay 1 on 1,1000", 14);
        faultOf(DAYS, "pay 1000 on 1,1", 7);
        faultOf(DAYS, "pay /", 4);
        faultOf(DAYS, "pay :", 4);
        String[] numbers = {"0", "9", "00", "10", "99", "000", "007", "100", "999"};
        for (String n : numbers) {
            WorldHall x = hallOf(3, 3);
            due("pay " + n, textOf(x, DAYS, 0, "pay " + n), 1);
            due("its number", x.cost(0), Integer.parseInt(n));
        }
    }

    private static void namesOnceInOrder() {
        says("NAME: gold silver bronze, each once at most, in this order");
        String[] names = {"gold", "silver", "bronze"};
        for (int a = 0; a < 3; a++) {
            String first = names[a] + " at 5";
            for (int b = 0; b < 3; b++) {
                String both = first + "," + names[b] + " at 4";
                int fault = a == 2 ? first.length() : first.length() + 1;
                due(both, textOf(hallOf(3, 3), MEDALS, 0, both), b > a ? 1 : -10 - fault);
            }
            faultOf(MEDALS, first + ",", a == 2 ? first.length() : first.length() + 1);
        }
        faultOf(MEDALS, "gold at 5,silver at 4,silver at 3", 22);
        faultOf(MEDALS, "gold at 5,silver at 4,gold at 3", 22);
        faultOf(MEDALS, "gold at 5,silver at 4,bronze at 3,", 33);
        faultOf(MEDALS, "gold at 5,silver at 4,bronze at 3,bronze at 2", 33);
        faultOf(MEDALS, ",gold at 5", 0);
        faultOf(MEDALS, "", 0);
    }

    private static void weekdays() {
        says("(D a digit 0 .. 6, the weekday; 4 such at most)");
        for (int d = 0; d < 7; d++) {
            WorldHall x = hallOf(3, 3);
            due("weekday " + d, textOf(x, DAYS, 0, "pay 1 on " + d + ",2"), 1);
            for (int day = 0; day < 14; day++) {
                due("cost of day " + day, x.cost(day), day % 7 == d ? 1 : 2);
            }
        }
        String[] wrong = {"7", "8", "9", "/", ":", "-", " ", ",", ""};
        for (String d : wrong) {
            faultOf(DAYS, "pay 1 on " + d, 9);
        }
        faultOf(DAYS, "pay 1 on 00,2", 10);
        faultOf(DAYS, "pay 1 on 0", 10);
        faultOf(DAYS, "pay 1 on 0,", 11);
        faultOf(DAYS, "pay 1,2", 5);
    }

    private static void fourSuchAtMost() {
        says("4 such at most");
        StringBuilder words = new StringBuilder("pay ");
        for (int such = 0; such <= 4; such++) {
            WorldHall x = hallOf(3, 3);
            due(such + " such", textOf(x, DAYS, 0, words + "9"), 1);
            for (int day = 0; day < 7; day++) {
                due("cost of day " + day, x.cost(day), day < such ? day + 1 : 9);
            }
            words.append(such + 1).append(" on ").append(such).append(",");
        }
        int end = "pay 1 on 0,2 on 1,3 on 2,4 on 3,5".length();
        faultOf(DAYS, words + "9", end);
        faultOf(DAYS, words.substring(0, end) + " ", end);
        faultOf(DAYS, words.substring(0, end) + ",", end);
        faultOf(DAYS, words.substring(0, end) + "000", end + 2);
    }

    private static void blanks() {
        says("One blank where one stands here, no other.");
        for (int sort = 0; sort < 2; sort++) {
            String words = sort == MEDALS ? "gold at 90,bronze at 60" : "pay 10 on 3,20 on 4,30";
            for (int at = 0; at <= words.length(); at++) {
                boolean here = at < words.length() && words.charAt(at) == ' ';
                // behind a digit of a number of days a blank may begin " on ", so the next byte is the fault
                boolean begins = sort == DAYS && (at == 5 || at == 13 || at == 21 || at == 22);
                int fault = here || begins ? at + 1 : at;
                faultOf(sort, words.substring(0, at) + " " + words.substring(at), fault);
                if (here) {
                    faultOf(sort, words.substring(0, at) + words.substring(at + 1), at);
                    faultOf(sort, words.substring(0, at) + "\t" + words.substring(at + 1), at);
                }
            }
        }
    }

    private static void faultFarOff() {
        says("-10 less the FAULT (THE TAPE is empty then, too)");
        String medals = "gold at 999,silver at 999,bronze at 999";
        String days = "pay 999 on 0,999 on 1,999 on 2,999 on 3,999";
        due("the longest of medals", textOf(hallOf(3, 3), MEDALS, 999, medals), 1);
        due("the longest of days", textOf(hallOf(3, 3), DAYS, 999, days), 1);
        faultOf(MEDALS, medals + "9", 39);
        faultOf(DAYS, days + "9", 43);
        faultOf(DAYS, days + "\0".repeat(120 - 43), 43);
    }

    private static void textNumbers() {
        says("BAD: sort, day; FULL.");
        for (int sort = 0; sort < 2; sort++) {
            WorldHall x = hallOf(3, 3);
            feedAll(x, sort == MEDALS ? "gold at 5" : "pay 5");
            int has = x.count(12);
            int[] days = {-1, 1000, LEAST, GREATEST};
            for (int day : days) {
                due("day " + day, x.text(sort, day), BAD);
            }
            int[] sorts = {-1, 2, LEAST, GREATEST};
            for (int other : sorts) {
                due("sort " + other, x.text(other, 0), BAD);
            }
            due("the tape is as it was", x.count(12), has);
            due("day 999", x.text(sort, 999), 1);
            feedAll(x, sort == MEDALS ? "gold at 5" : "pay 5");
            due("day 0", x.text(sort, 0), 2);
        }
    }

    private static void tapeIsEmptyThen() {
        says("THE TAPE, which is empty then");
        WorldHall x = hallOf(3, 3);
        feedAll(x, "pay 5");
        due("read", x.text(DAYS, 0), 1);
        due("empty", x.count(12), 0);
        due("an empty one is no text", x.text(DAYS, 0), -10);
        due("nor of medals", x.text(MEDALS, 0), -10);
        feedAll(x, "pay x");
        due("a fault", x.text(DAYS, 0), -14);
        due("empty", x.count(12), 0);
        due("what comes is the first byte", x.feed('p', 1), 1);
        feedAll(x, "ay 6");
        due("read", x.text(DAYS, 0), 2);
        due("in force", x.cost(0), 6);
    }

    private static void nothingIsLeftOfAFault() {
        says("-10 less the FAULT (THE TAPE is empty then, too)");
        WorldHall x = hallOf(3, 3);
        judged(x, 50, 50);
        due("a fault behind two names", textOf(x, MEDALS, 0, "gold at 10,silver at 20,bronze at x"), -10 - 34);
        due("no text", x.medal(0, 0), 0);
        due("one name", textOf(x, MEDALS, 0, "bronze at 90"), 1);
        due("the names of the fault do not count", x.medal(0, 0), 0);
        due("a fault behind a text of three", textOf(x, MEDALS, 0, "gold at 1,silver at 1,bronze at 1,"), -10 - 33);
        due("the text is as it was", x.medal(0, 0), 0);
        due("a fault behind two weekdays", textOf(x, DAYS, 0, "pay 1 on 0,2 on 1,x"), -10 - 18);
        due("no text", x.cost(0), 0);
        due("a text", textOf(x, DAYS, 0, "pay 3"), 1);
        due("the weekdays of the fault do not count", x.cost(0) + x.cost(1), 6);
    }

    private static void sixOfASort() {
        says("6 of a sort at most");
        for (int sort = 0; sort < 2; sort++) {
            String words = sort == MEDALS ? "gold at " : "pay ";
            WorldHall x = hallOf(3, 3);
            for (int i = 1; i <= 6; i++) {
                due("a fault is none", textOf(x, sort, 0, "x"), -10);
                due("the number " + i, textOf(x, sort, i, words + i), i);
            }
            feedAll(x, words + 7);
            due("a seventh", x.text(sort, 0), FULL);
            due("a seventh of another day", x.text(sort, 999), FULL);
            due("the tape is as it was", x.count(12), words.length() + 1);
            due("for the other sort it is a fault", x.text(1 - sort, 0), -10);
            due("an empty seventh", x.text(sort, 0), FULL);
            String other = sort == MEDALS ? "pay " : "gold at ";
            for (int i = 1; i <= 6; i++) {
                due("of the other sort " + i, textOf(x, 1 - sort, i, other + i), i);
            }
            due("a seventh of that", x.text(1 - sort, 0), FULL);
        }
    }

    private static void fromADayOn() {
        says("A TEXT is in force from a day on (0 .. 999)");
        int[] froms = {0, 1, 500, 999};
        for (int from : froms) {
            WorldHall x = hallOf(3, 3);
            judged(x, 60, 60);
            textOf(x, DAYS, from, "pay 8");
            textOf(x, MEDALS, from, "silver at 60");
            due("cost on the day", x.cost(from), 8);
            due("medal on the day", x.medal(0, from), 2);
            due("cost long behind it", x.cost(GREATEST), 8);
            due("medal long behind it", x.medal(0, GREATEST), 2);
            due("cost a day ahead", x.cost(from - 1), from == 0 ? NONE : 0);
            due("medal a day ahead", x.medal(0, from - 1), 0);
        }
    }

    /** One stand with marks of as many jurors, given on day 0. */
    private static void judged(WorldHall x, int... marks) {
        plainStand(x, 0, 0);
        for (int i = 0; i < marks.length; i++) {
            x.juror(1 + i % 7, 0);
            x.mark(i, 0, marks[i], 0);
        }
    }

    private static void tillALaterOne() {
        says("till a later one of its sort (of one day the one that was told later) is");
        WorldHall x = hallOf(3, 3);
        judged(x, 50, 50);
        textOf(x, DAYS, 10, "pay 1");
        textOf(x, MEDALS, 10, "gold at 50");
        textOf(x, DAYS, 20, "pay 2");
        due("the last day of the first", x.cost(19), 1);
        due("the first day of the second", x.cost(20), 2);
        due("a text of the other sort is no later one", x.medal(0, 20), 3);
        textOf(x, DAYS, 15, "pay 3");
        due("told later, in force between: ahead", x.cost(14), 1);
        due("between", x.cost(15), 3);
        due("its last day", x.cost(19), 3);
        due("the later day counts, not the later telling", x.cost(20), 2);
        textOf(x, DAYS, 20, "pay 4");
        due("of one day the one told later", x.cost(20), 4);
        textOf(x, DAYS, 10, "pay 5");
        due("likewise of the first day", x.cost(14), 5);
        due("not beyond it", x.cost(15), 3);
        textOf(x, MEDALS, 9, "silver at 50");
        due("medals, the last day of the earlier", x.medal(0, 9), 2);
        due("medals, the later", x.medal(0, 10), 3);
        textOf(x, MEDALS, 10, "bronze at 50");
        due("medals, of one day the one told later", x.medal(0, 10), 1);
        textOf(x, MEDALS, 11, "gold at 51");
        due("a later one is in force, though no name of it fits", x.medal(0, 11), 0);
    }

    private static void jurorNumbers() {
        says("A JUROR more: its number. BAD; FULL.");
        WorldHall x = hallOf(3, 3);
        due("land -1", x.juror(-1, 0), BAD);
        due("land 8", x.juror(8, 0), BAD);
        due("class -1", x.juror(0, -1), BAD);
        due("class 10", x.juror(0, 10), BAD);
        due("far", x.juror(LEAST, 0), BAD);
        due("far", x.juror(0, GREATEST), BAD);
        due("none was made", x.count(4), 0);
        due("the least", x.juror(0, 0), 0);
        due("the greatest", x.juror(7, 9), 1);
        due("land 0, class 9", x.juror(0, 9), 2);
        due("land 7, class 0", x.juror(7, 0), 3);
        due("four were made", x.count(4), 4);
    }

    private static void twelveAtMost() {
        says("JURORS are numbered from 0 on, 12 at most");
        WorldHall x = hallOf(3, 3);
        plainStand(x, 0, 0);
        for (int i = 0; i < 12; i++) {
            due("not yet", x.mark(i, 0, 50, 0), -5);
            due("its number", x.juror(1, 0), i);
            due("how many", x.count(4), i + 1);
            due("now", x.mark(i, 0, 50, 0), NONE);
        }
        due("a thirteenth", x.juror(1, 0), FULL);
        due("twelve", x.count(4), 12);
        due("none such", x.mark(12, 0, 50, 0), -5);
        due("of each of them a mark", x.about(0, 6), 12);
    }

    private static void noneSuch() {
        says("-5: there is none such; BAD: mark, day (0 .. 999); STATE: its LAND, another CLASS.");
        WorldHall x = hallOf(3, 3);
        due("neither", x.mark(0, 0, 50, 0), -5);
        x.juror(1, 0);
        due("no stand", x.mark(0, 0, 50, 0), -5);
        plainStand(x, 0, 0);
        due("a juror ahead", x.mark(-1, 0, 50, 0), -5);
        due("a juror behind", x.mark(1, 0, 50, 0), -5);
        due("a stand ahead", x.mark(0, -1, 50, 0), -5);
        due("a stand behind", x.mark(0, 1, 50, 0), -5);
        due("far", x.mark(LEAST, 0, 50, 0), -5);
        due("far", x.mark(0, GREATEST, 50, 0), -5);
        due("none was given", x.count(5), 0);
        due("both are there", x.mark(0, 0, 50, 0), NONE);
        WorldHall y = hallOf(3, 3);
        plainStand(y, 0, 0);
        due("no juror", y.mark(0, 0, 50, 0), -5);
    }

    private static void markNumbers() {
        says("A MARK (0 .. 100)");
        WorldHall x = hallOf(3, 3);
        plainStand(x, 0, 0);
        x.juror(1, 0);
        int[] values = {-1, 101, LEAST, GREATEST};
        int[] days = {-1, 1000, LEAST, GREATEST};
        for (int i = 0; i < 4; i++) {
            due("mark " + values[i], x.mark(0, 0, values[i], 0), BAD);
            due("day " + days[i], x.mark(0, 0, 50, days[i]), BAD);
        }
        due("none was given", x.count(5), 0);
        due("mark 0 on day 0", x.mark(0, 0, 0, 0), NONE);
        due("it was 0; mark 100 on day 999", x.mark(0, 0, 100, 999), 0);
        due("it was 100", x.mark(0, 0, 1, 1), 100);
        due("a refused one takes no place", x.mark(0, 0, 101, 1), BAD);
        due("it was 1", x.mark(0, 0, 2, 1), 1);
    }

    private static void landAndClass() {
        says("given by a JUROR to a STAND of its CLASS, not of its LAND");
        for (int land = 0; land < 8; land++) {
            WorldHall x = hallOf(3, 3);
            for (int other = 0; other < 8; other++) {
                plainStand(x, other, land);
            }
            plainStand(x, (land + 1) % 8, 9);
            x.juror(land, land);
            for (int other = 0; other < 8; other++) {
                due("juror of land " + land + " to " + other, x.mark(0, other, 50, 0), other == land ? STATE : NONE);
            }
            due("another class", x.mark(0, 8, 50, 0), STATE);
            due("seven were given", x.count(5), 7);
        }
        WorldHall y = hallOf(3, 3);
        plainStand(y, 0, 0);
        y.juror(0, 1);
        due("its land and another class", y.mark(0, 0, 50, 0), STATE);
    }

    private static void newerTakesItsPlace() {
        says("a newer one takes its place");
        WorldHall x = hallOf(3, 3);
        judged(x, 10, 20);
        due("10 was", x.mark(0, 0, 30, 500), 10);
        due("the older one is gone", x.mean(0, 499), NONE);
        due("the newer one is there", x.mean(0, 500), 25);
        due("30 was; newer, though of an earlier day", x.mark(0, 0, 40, 3), 30);
        due("ahead of it", x.mean(0, 2), NONE);
        due("from its day on", x.mean(0, 3), 30);
        due("two marks", x.count(5), 2);
        due("the same again", x.mark(0, 0, 40, 3), 40);
        due("two marks", x.count(5), 2);
    }

    private static void onThatDayOrAhead() {
        says("of MARKS given on that day or ahead of it, cut; it needs 2 of them at least");
        WorldHall x = hallOf(3, 3);
        plainStand(x, 0, 0);
        for (int land = 1; land < 5; land++) {
            x.juror(land, 0);
        }
        x.mark(0, 0, 10, 0);
        x.mark(1, 0, 20, 5);
        x.mark(2, 0, 60, 999);
        int[] days = {LEAST, -1, 0, 4, 5, 6, 998, 999, 1000, GREATEST};
        int[] means = {NONE, NONE, NONE, NONE, 15, 15, 15, 30, 30, 30};
        for (int i = 0; i < days.length; i++) {
            due("day " + days[i], x.mean(0, days[i]), means[i]);
        }
    }

    private static void meanIsCut() {
        says("cut; it needs 2 of them at least");
        int[][] marks = {{0, 0}, {0, 1}, {1, 1}, {99, 100}, {100, 100}, {0, 0, 2}, {1, 1, 1}, {0, 1, 1}, {100, 100, 99}};
        int[] means = {0, 0, 1, 99, 100, 0, 1, 0, 99};
        for (int i = 0; i < marks.length; i++) {
            WorldHall x = hallOf(3, 3);
            judged(x, marks[i]);
            due("mean " + i, x.mean(0, 0), means[i]);
        }
        WorldHall all = hallOf(3, 3);
        judged(all, 100, 100, 100, 100, 100, 100, 100, 100, 100, 100, 100, 99);
        due("of twelve", all.mean(0, 0), 99);
        all.mark(11, 0, 100, 0);
        due("of twelve", all.mean(0, 0), 100);
    }

    private static void twoAtLeast() {
        says("MEAN. NONE: also fewer than 2.");
        WorldHall x = hallOf(3, 3);
        judged(x);
        due("none", x.mean(0, 0), NONE);
        x.juror(1, 0);
        x.juror(2, 0);
        x.mark(0, 0, 70, 0);
        due("one", x.mean(0, 0), NONE);
        x.mark(0, 0, 80, 0);
        due("one, newer", x.mean(0, 0), NONE);
        x.mark(1, 0, 80, 0);
        due("two", x.mean(0, 0), 80);
    }

    private static void meanOfNone() {
        says("MEAN. NONE: also fewer than 2.");
        WorldHall x = hallOf(3, 3);
        due("no stand", x.mean(0, 0), NONE);
        judged(x, 50, 50);
        due("the next number", x.mean(1, 0), NONE);
        due("the number ahead", x.mean(-1, 0), NONE);
        due("far", x.mean(LEAST, 0), NONE);
        due("far", x.mean(GREATEST, 0), NONE);
        due("the stand", x.mean(0, 0), 50);
    }

    private static void nOrMore() {
        says("the first NAME of which the MEAN is N or more: 3 gold, 2 silver, 1 bronze, 0 none");
        WorldHall x = hallOf(3, 3);
        judged(x, 0, 0);
        textOf(x, MEDALS, 0, "gold at 100,silver at 50,bronze at 1");
        int[] marks = {0, 1, 49, 50, 99, 100};
        int[] medals = {0, 1, 1, 2, 2, 3};
        for (int i = 0; i < marks.length; i++) {
            x.mark(0, 0, marks[i], 0);
            x.mark(1, 0, marks[i], 0);
            due("mean " + marks[i], x.medal(0, 0), medals[i]);
        }
        x.mark(0, 0, 99, 0);
        due("99 and a half is cut", x.medal(0, 0), 2);
        textOf(x, MEDALS, 1, "gold at 101,silver at 999");
        due("no mean is so much", x.medal(0, 1), 0);
        x.mark(0, 0, 0, 0);
        x.mark(1, 0, 0, 0);
        textOf(x, MEDALS, 2, "bronze at 000");
        due("a mean of 0 is 0 or more", x.medal(0, 2), 1);
    }

    private static void firstName() {
        says("of the TEXT in force then the first NAME of which the MEAN is N or more");
        WorldHall x = hallOf(3, 3);
        judged(x, 60, 60);
        String[] words = {"gold at 60,silver at 70", "gold at 60,silver at 60,bronze at 60", "gold at 61,silver at 60",
            "gold at 61,silver at 70,bronze at 0", "gold at 61,bronze at 60"};
        int[] medals = {3, 3, 2, 1, 1};
        for (int i = 0; i < words.length; i++) {
            textOf(x, MEDALS, i, words[i]);
            due(words[i], x.medal(0, i), medals[i]);
        }
    }

    private static void medalOfNone() {
        says("MEDAL (0 without a MEAN, or TEXT). NONE.");
        WorldHall x = hallOf(3, 3);
        due("no stand", x.medal(0, 0), NONE);
        judged(x, 50);
        due("neither mean nor text", x.medal(0, 0), 0);
        textOf(x, MEDALS, 0, "gold at 0");
        due("no mean", x.medal(0, 0), 0);
        x.juror(2, 0);
        x.mark(1, 0, 0, 1);
        due("no mean on that day yet", x.medal(0, 0), 0);
        due("a mean", x.medal(0, 1), 3);
        due("a day below 0", x.medal(0, -1), 0);
        due("the next number", x.medal(1, 1), NONE);
        due("the number ahead", x.medal(-1, 1), NONE);
        due("far", x.medal(LEAST, 1), NONE);
        due("far", x.medal(GREATEST, 1), NONE);
        WorldHall y = hallOf(3, 3);
        judged(y, 50, 50);
        due("a mean without a text", y.medal(0, 0), 0);
        textOf(y, DAYS, 0, "pay 0");
        due("a text of days is none of medals", y.medal(0, 0), 0);
    }

    private static void costOfADay() {
        says("of the TEXT in force then N of the first D that is the day modulo 7, else the last N");
        WorldHall x = hallOf(3, 3);
        textOf(x, DAYS, 0, "pay 10 on 2,20 on 2,30 on 0,40 on 6,50");
        int[] week = {30, 50, 10, 50, 50, 50, 40};
        for (int day = 0; day < 21; day++) {
            due("day " + day, x.cost(day), week[day % 7]);
        }
        due("day 999", x.cost(999), week[999 % 7]);
        due("day 1000", x.cost(1000), week[1000 % 7]);
        due("the greatest day", x.cost(GREATEST), week[GREATEST % 7]);
    }

    private static void costWithoutText() {
        says("0 without a TEXT");
        WorldHall x = hallOf(3, 3);
        due("day 0", x.cost(0), 0);
        due("the greatest day", x.cost(GREATEST), 0);
        textOf(x, MEDALS, 0, "gold at 5");
        due("a text of medals is none of days", x.cost(0), 0);
        says("COST. NONE: the day is below 0.");
        due("day -1", x.cost(-1), NONE);
        due("the least day", x.cost(LEAST), NONE);
        textOf(x, DAYS, 0, "pay 5");
        due("day -1 with a text", x.cost(-1), NONE);
        due("day 0 with a text", x.cost(0), 5);
    }
}
