import java.io.IOException;
import java.nio.charset.StandardCharsets;
import java.nio.file.Files;
import java.nio.file.Path;

/** What the tests by hand have in common: the count of answers, halls to begin with, and texts. */
abstract class Bench {
    static final int NONE = WorldHall.NONE, BAD = WorldHall.BAD, STATE = WorldHall.STATE, FULL = WorldHall.FULL;
    static final int LEAST = Integer.MIN_VALUE, GREATEST = Integer.MAX_VALUE;
    static final int[] WRONG = {-1, LEAST, GREATEST};
    static final int PLAIN = 0, DOOR = 1, SHAFT = 2, WELL = 3;
    static final int WALL = 1, ENGINE = 2, LIVING = 3, JOINT = 4;

    private static final Path DOCUMENT = Path.of("../shared/DOC.md");
    private static String document = "";
    private static String place = "";
    private static int asked = 0;
    private static int wrong = 0;

    /** From here on the answers are about that promise. */
    static void promise(int n) {
        place = "promise " + n;
    }

    /** From here on the answers are about something that is no promise. */
    static void place(String what) {
        place = what;
    }

    /** From here on the answers are about a sentence, which must stand in the document to the letter. */
    static void says(String sentence) {
        place = '"' + sentence + '"';
        if (!document().contains(sentence)) {
            wrong++;
            System.out.println(place + " does not stand in the document");
        }
    }

    private static String document() {
        if (document.isEmpty()) {
            try {
                document = Files.readString(DOCUMENT);
            } catch (IOException e) {
                throw new IllegalStateException("the document is not to be read", e);
            }
        }
        return document;
    }

    static void due(String what, long got, long want) {
        asked++;
        if (got != want) {
            wrong++;
            System.out.println(place + ": " + what + " answered " + got + ", due is " + want);
        }
    }

    static void finish() {
        System.out.println((asked - wrong) + " answers as due, " + wrong + " not");
        if (wrong != 0 || asked == 0) {
            System.exit(1);
        }
    }

    /** A hall of so many columns and rows. */
    static WorldHall hallOf(int columns, int rows) {
        return new WorldHall(columns - 3, rows - 3);
    }

    /** A hall of 5 by 5 with a door in the north west. */
    static WorldHall withDoor() {
        WorldHall x = hallOf(5, 5);
        x.cell(0, DOOR);
        return x;
    }

    static int plainStand(WorldHall x, int land, int of) {
        return x.stand(PLAIN, land, of, 1, 1, 0);
    }

    static int sizedStand(WorldHall x, int width, int depth) {
        return x.stand(PLAIN, 0, 0, width, depth, 0);
    }

    static void feedAll(WorldHall x, String words) {
        byte[] bytes = words.getBytes(StandardCharsets.ISO_8859_1);
        for (int i = 0; i < bytes.length; i += 8) {
            int n = Math.min(8, bytes.length - i);
            long word = 0;
            for (int j = 0; j < n; j++) {
                word = word << 8 | bytes[i + j] & 255;
            }
            x.feed(word, n);
        }
    }

    static int textOf(WorldHall x, int sort, int day, String words) {
        feedAll(x, words);
        int answer = x.text(sort, day);
        due("bytes behind text " + words, x.count(12), 0);
        return answer;
    }
}
