import java.lang.reflect.Method;
import java.util.ArrayList;
import java.util.Arrays;
import java.util.Comparator;
import java.util.List;
import java.util.Random;

/** Long runs of drawn calls, with fixed seeds: each answer must be that of PlainHall. */
public final class CompareTest {
    private static final int RUNS = 1500, CALLS = 512;
    private static final String[] LETTERS = {"g", "o", "l", "d", " ", ",", "at", "on", "9", "0", "6", "7", "pay ", "\u00ff"};

    private final Random random;
    private final WorldHall hall;
    private final PlainHall plain;
    private final Method[] calls;
    private final int cells;
    /** Of each call how likely it is in this run, so that runs differ in what they are about. */
    private final int[] weights;
    private final List<String> told = new ArrayList<>();
    private boolean differs = false;

    private CompareTest(int seed) {
        random = new Random(seed);
        int w = random.nextInt(40) - 20, h = random.nextInt(40) - 20;
        hall = new WorldHall(w, h);
        plain = new PlainHall(w, h);
        cells = plain.w * plain.h;
        calls = Arrays.stream(WorldHall.class.getDeclaredMethods())
            .filter(m -> java.lang.reflect.Modifier.isPublic(m.getModifiers()))
            .sorted(Comparator.comparing(Method::getName)).toArray(Method[]::new);
        weights = new int[calls.length];
        for (int i = 0; i < weights.length; i++) {
            int usual = List.of("lay", "bring", "mark", "row", "hinders").contains(calls[i].getName()) ? 30 : 10;
            weights[i] = random.nextInt(4) == 0 ? 1 : 1 + random.nextInt(usual);
            if (List.of("clear", "found", "bell", "take", "cell", "aisle").contains(calls[i].getName())) {
                weights[i] = 1 + weights[i] / 5;
            }
        }
    }

    public static void main(String[] args) throws ReflectiveOperationException {
        int wrong = 0;
        for (int seed = 0; seed < RUNS && wrong < 5; seed++) {
            if (!new CompareTest(seed).holds(seed)) {
                wrong++;
            }
        }
        System.out.println(wrong == 0 ? "all runs agree" : wrong + " runs differ");
        if (wrong != 0) {
            System.exit(1);
        }
    }

    private boolean holds(int seed) throws ReflectiveOperationException {
        prepare();
        for (int i = 0; i < CALLS; i++) {
            if (random.nextInt(20) == 0) {
                feedSome();
            } else {
                Method method = draw();
                ask(method, argumentsFor(method));
            }
        }
        if (differs) {
            System.out.println("seed " + seed + ", hall " + plain.w + " by " + plain.h + ": " + told);
        }
        return !differs;
    }

    private void prepare() throws ReflectiveOperationException {
        ask("aisle", random.nextInt(8) == 0 ? 3 : random.nextInt(2));
        for (int i = random.nextInt(6); i > 0; i--) {
            ask("cell", random.nextInt(cells), random.nextInt(4));
        }
        ask("cell", random.nextInt(plain.w), 1);
        for (int i = random.nextInt(10); i > 0; i--) {
            ask("bears", random.nextInt(cells), random.nextInt(100));
        }
        int lands = 1 + random.nextInt(4), classes = 1 + random.nextInt(3);
        for (int i = random.nextInt(10); i > 0; i--) {
            int size = random.nextInt(3) == 0 ? 4 : 2;
            ask("stand", Math.max(0, random.nextInt(8) - 3), random.nextInt(lands), random.nextInt(classes),
                1 + random.nextInt(size), 1 + random.nextInt(size), random.nextInt(40));
        }
    }

    private Method draw() {
        int sum = Arrays.stream(weights).sum();
        int n = random.nextInt(sum);
        for (int i = 0; i < weights.length; i++) {
            n -= weights[i];
            if (n < 0) {
                return calls[i];
            }
        }
        return calls[0];
    }

    private void ask(String name, Object... arguments) throws ReflectiveOperationException {
        for (Method method : calls) {
            if (method.getName().equals(name)) {
                ask(method, arguments);
            }
        }
    }

    /** Behind the last call that the document promises an answer for nothing more is asked. */
    private void ask(Method method, Object[] arguments) throws ReflectiveOperationException {
        if (differs || told.size() >= CALLS) {
            return;
        }
        Object want = PlainHall.class.getDeclaredMethod(method.getName(), method.getParameterTypes()).invoke(plain, arguments);
        Object got = method.invoke(hall, arguments);
        told.add(method.getName() + Arrays.toString(arguments) + " " + got);
        if (!got.equals(want)) {
            told.add("due is " + want);
            differs = true;
        }
    }

    /** Now and then any int at all, else one of 0 .. below, or just outside it. */
    private int near(int below) {
        int n = random.nextInt(60);
        if (n == 0) {
            return random.nextInt();
        }
        return n < 4 ? new int[] {-1, below, below - 1}[n - 1] : random.nextInt(below);
    }

    private Object[] argumentsFor(Method method) {
        switch (method.getName()) {
            case "cell": return new Object[] {near(cells), near(4)};
            case "bears": return new Object[] {near(cells), near(100)};
            case "aisle": return new Object[] {near(4)};
            case "stand": return new Object[] {near(5), near(8), near(10), 1 + near(4), 1 + near(4), near(100)};
            case "hinders", "lay": return new Object[] {stand(), near(cells)};
            case "take", "can", "bring", "hand": return new Object[] {stand()};
            case "about": return new Object[] {stand(), near(7)};
            case "at": return new Object[] {near(cells)};
            case "row": return new Object[] {near(9)};
            case "feed": return new Object[] {random.nextLong(), near(9)};
            case "text": return new Object[] {near(2), day()};
            case "juror": return new Object[] {near(8), random.nextInt(4) == 0 ? near(10) : random.nextInt(3)};
            case "mark": return new Object[] {near(12), stand(), near(101), day()};
            case "mean", "medal": return new Object[] {stand(), day()};
            case "cost": return new Object[] {day()};
            case "most": return new Object[] {random.nextBoolean() ? 1 + near(50) : 1 + near(20000)};
            case "minute": return random.nextBoolean() ? new Object[] {near(40), near(40)} : new Object[] {near(2001), near(2001)};
            case "sight": return new Object[] {near(cells), random.nextInt(9) == 0 ? near(10001) : nearLatest()};
            case "canBe": return new Object[] {near(cells), nearLatest()};
            case "places": return new Object[] {nearLatest()};
            case "sell": return new Object[] {stand(), near(1000)};
            case "end": return new Object[] {random.nextBoolean() ? near(4) : near(1000)};
            case "count": return new Object[] {near(14)};
            default: return new Object[0];
        }
    }

    private int stand() {
        return near(Math.max(1, plain.stands.size()));
    }

    private int day() {
        return random.nextBoolean() ? near(10) : near(1000);
    }

    private int nearLatest() {
        int latest = plain.sights.isEmpty() ? 0 : plain.sights.get(plain.sights.size() - 1)[1];
        return latest + near(20) - random.nextInt(2);
    }

    /** A text, right as it is or with some harm done, and its reading. */
    private void feedSome() throws ReflectiveOperationException {
        int sort = random.nextInt(2);
        StringBuilder words = new StringBuilder(sort == 0 ? medals() : days());
        if (random.nextInt(3) == 0) {
            int at = random.nextInt(words.length());
            switch (random.nextInt(3)) {
                case 0: words.setLength(at); break;
                case 1: words.deleteCharAt(at); break;
                default: words.insert(at, LETTERS[random.nextInt(LETTERS.length)]);
            }
        }
        for (int i = 0; i < words.length(); ) {
            int n = Math.min(1 + random.nextInt(8), words.length() - i);
            long word = random.nextBoolean() ? 0 : random.nextLong();
            for (int j = 0; j < n; j++) {
                word = word << 8 | words.charAt(i + j);
            }
            ask("feed", word, n);
            i += n;
        }
        ask("text", random.nextInt(15) == 0 ? 1 - sort : sort, day());
    }

    private String medals() {
        StringBuilder words = new StringBuilder();
        for (String name : random.nextInt(9) == 0 ? List.of("silver", "gold") : List.of("gold", "silver", "bronze")) {
            if (random.nextInt(3) > 0) {
                words.append(words.length() > 0 ? "," : "").append(name).append(" at ").append(number());
            }
        }
        return words.length() == 0 ? "bronze at 0" : words.toString();
    }

    private String days() {
        StringBuilder words = new StringBuilder("pay ");
        for (int i = random.nextInt(6); i > 0; i--) {
            words.append(number()).append(" on ").append(random.nextInt(30) == 0 ? 7 : random.nextInt(7)).append(",");
        }
        return words.append(number()).toString();
    }

    private String number() {
        return random.nextInt(5) == 0 ? "0" + random.nextInt(100) : "" + random.nextInt(random.nextInt(20) == 0 ? 2000 : 101);
    }
}
