import java.util.ArrayDeque;
import java.util.ArrayList;
import java.util.Arrays;
import java.util.HashMap;
import java.util.HashSet;
import java.util.List;
import java.util.Map;
import java.util.Set;
import java.util.regex.Matcher;
import java.util.regex.Pattern;

/** The document written a second time, as plainly as can be and without a thought of speed, to compare with. */
final class PlainHall {
    private static final int NONE = -1, BAD = -2, STATE = -3, FULL = -4;
    private static final Pattern MEDALS = Pattern.compile(
        "(gold at [0-9]{1,3}(,silver at [0-9]{1,3})?(,bronze at [0-9]{1,3})?)"
        + "|(silver at [0-9]{1,3}(,bronze at [0-9]{1,3})?)|(bronze at [0-9]{1,3})");
    private static final Pattern DAYS = Pattern.compile("pay [0-9]{1,3}|pay ([0-9]{1,3} on [0-6],){1,4}[0-9]{1,3}");

    static final class S {
        int kind, land, of, width, depth, weight;
        int x = -1, y = -1;
        boolean laid, in, handed;
        Integer buyer;

        boolean covers(int cx, int cy) {
            return laid && cx >= x && cx < x + width && cy >= y && cy < y + depth;
        }
    }

    record Told(String words, int day) { }

    record Mark(int value, int day) { }

    final int w, h;
    final int[][] kind, bears;
    int aisle = 1;
    final List<S> stands = new ArrayList<>();
    String tape = "";
    final List<List<Told>> texts = List.of(new ArrayList<>(), new ArrayList<>());
    final List<int[]> jurors = new ArrayList<>();
    final Map<List<Integer>, Mark> marks = new HashMap<>();
    int most = 1000, day, minutes, inside, outside, takings, allTakings, end = 180;
    final List<int[]> sights = new ArrayList<>();

    PlainHall(int w, int h) {
        this.w = 3 + ((w % 6) + 6) % 6;
        this.h = 3 + ((h % 6) + 6) % 6;
        kind = new int[this.h][this.w];
        bears = new int[this.h][this.w];
        for (int[] line : bears) {
            Arrays.fill(line, 50);
        }
    }

    private boolean noCell(int c) {
        return c < 0 || c >= w * h;
    }

    private boolean noStand(int s) {
        return s < 0 || s >= stands.size();
    }

    private boolean someLaid() {
        return stands.stream().anyMatch(s -> s.laid);
    }

    private boolean inHall(int x, int y) {
        return x >= 0 && y >= 0 && x < w && y < h;
    }

    private static final int[][] STEPS = {{0, -1}, {1, 0}, {0, 1}, {-1, 0}};

    int cell(int c, int what) {
        if (noCell(c)) return NONE;
        int x = c % w, y = c / w;
        if (what < 0 || what > 3) return BAD;
        if (what == 1 && x > 0 && x < w - 1 && y > 0 && y < h - 1) return BAD;
        if (someLaid()) return STATE;
        int was = kind[y][x];
        kind[y][x] = what;
        return was;
    }

    int bears(int c, int much) {
        if (noCell(c)) return NONE;
        if (much < 0 || much > 99) return BAD;
        if (someLaid()) return STATE;
        int was = bears[c / w][c % w];
        bears[c / w][c % w] = much;
        return was;
    }

    int aisle(int n) {
        if (n < 0 || n > 3) return BAD;
        if (someLaid()) return STATE;
        int was = aisle;
        aisle = n;
        return was;
    }

    int stand(int kind, int land, int of, int width, int depth, int weight) {
        if (kind < 0 || kind > 4 || land < 0 || land > 7 || of < 0 || of > 9) return BAD;
        if (width < 1 || width > 4 || depth < 1 || depth > 4 || weight < 0 || weight > 99) return BAD;
        if (stands.size() == 9) return FULL;
        S s = new S();
        s.kind = kind;
        s.land = land;
        s.of = of;
        s.width = width;
        s.depth = depth;
        s.weight = weight;
        stands.add(s);
        return stands.size() - 1;
    }

    private int freeBetween(Set<Integer> one, Set<Integer> other, int all) {
        int fewest = all;
        for (int a : one) {
            for (int b : other) {
                fewest = Math.min(fewest, Math.max(0, Math.abs(a - b) - 1));
                if (a == b) return 0;
            }
        }
        return fewest;
    }

    private static Set<Integer> stretch(int from, int length) {
        Set<Integer> lines = new HashSet<>();
        for (int i = 0; i < length; i++) lines.add(from + i);
        return lines;
    }

    private int first(S one, int x0, int y0) {
        boolean[] is = new boolean[8];
        boolean edge = false, shaft = false, well = false;
        for (int y = y0; y < y0 + one.depth; y++) {
            for (int x = x0; x < x0 + one.width; x++) {
                if (!inHall(x, y)) {
                    is[1] = true;
                    continue;
                }
                if (kind[y][x] != 0) is[2] = true;
                for (S other : stands) if (other != one && other.covers(x, y)) is[3] = true;
                if (bears[y][x] < one.weight) is[5] = true;
                if (x == 0 || y == 0 || x == w - 1 || y == h - 1) edge = true;
                for (int[] step : STEPS) {
                    int bx = x + step[0], by = y + step[1];
                    if (inHall(bx, by) && kind[by][bx] == 2) shaft = true;
                    if (inHall(bx, by) && kind[by][bx] == 3) well = true;
                }
            }
        }
        for (S other : stands) {
            if (other == one || !other.laid) continue;
            if (other.of != one.of
                && freeBetween(stretch(x0, one.width), stretch(other.x, other.width), 99) < aisle
                && freeBetween(stretch(y0, one.depth), stretch(other.y, other.depth), 99) < aisle) is[4] = true;
            if (other.of == one.of && other.land == one.land) {
                if (one.kind == 4) is[6] = true;
                if (other.kind == 4) is[7] = true;
            }
        }
        if (one.kind == 1 && !edge || one.kind == 2 && !shaft || one.kind == 3 && !well) is[6] = true;
        for (int i = 1; i < 8; i++) if (is[i]) return i;
        return 0;
    }

    int hinders(int s, int c) {
        if (noStand(s) || noCell(c)) return NONE;
        return first(stands.get(s), c % w, c / w);
    }

    int lay(int s, int c) {
        if (noStand(s) || noCell(c)) return NONE;
        S one = stands.get(s);
        if (one.in) return STATE;
        int hindrance = hinders(s, c);
        if (hindrance != 0) return hindrance;
        one.laid = true;
        one.x = c % w;
        one.y = c / w;
        return 0;
    }

    int take(int s) {
        if (noStand(s) || !stands.get(s).laid) return NONE;
        S one = stands.get(s);
        if (one.in) return STATE;
        one.laid = false;
        return one.y * w + one.x;
    }

    int about(int s, int what) {
        if (noStand(s) || what < 0 || what > 6) return NONE;
        S one = stands.get(s);
        int[] all = {one.kind, one.land, one.of, one.laid ? one.y * w + one.x : NONE, one.in ? 1 : 0,
            one.buyer == null ? NONE : one.buyer, 0};
        for (List<Integer> key : marks.keySet()) if (key.get(1) == s) all[6]++;
        return all[what];
    }

    int at(int c) {
        if (noCell(c)) return NONE;
        for (int s = 0; s < stands.size(); s++) if (stands.get(s).covers(c % w, c / w)) return s;
        return NONE;
    }

    int price() {
        int sum = 0;
        for (int a = 0; a < stands.size(); a++) {
            for (int b = a + 1; b < stands.size(); b++) {
                S one = stands.get(a), other = stands.get(b);
                if (!one.laid || !other.laid) continue;
                int far = Math.abs(one.x - other.x) + Math.abs(one.y - other.y);
                if (one.of == other.of) sum += far;
                if (one.land == other.land) sum += far;
            }
        }
        return sum;
    }

    int better() {
        for (S s : stands) if (s.in) return STATE;
        int moves = 0;
        while (moves < 50 && move()) moves++;
        return moves;
    }

    private boolean move() {
        int now = price();
        for (S one : stands) {
            if (!one.laid) continue;
            int x0 = one.x, y0 = one.y;
            for (int c = 0; c < w * h; c++) {
                if (c == y0 * w + x0 || first(one, c % w, c / w) != 0) continue;
                one.x = c % w;
                one.y = c / w;
                if (price() < now) return true;
                one.x = x0;
                one.y = y0;
            }
        }
        return false;
    }

    private boolean reached(S one, Set<Integer> in) {
        boolean[][] seen = new boolean[h][w];
        ArrayDeque<int[]> open = new ArrayDeque<>();
        for (int y = 0; y < h; y++) {
            for (int x = 0; x < w; x++) {
                if (kind[y][x] == 1) {
                    seen[y][x] = true;
                    open.add(new int[] {x, y});
                }
            }
        }
        while (!open.isEmpty()) {
            int[] p = open.poll();
            if (one.covers(p[0], p[1])) return true;
            for (int[] step : STEPS) {
                int x = p[0] + step[0], y = p[1] + step[1];
                if (!inHall(x, y) || seen[y][x] || kind[y][x] > 1) continue;
                int on = at(y * w + x);
                if (on != NONE && stands.get(on) != one && in.contains(on)) continue;
                seen[y][x] = true;
                open.add(new int[] {x, y});
            }
        }
        return false;
    }

    private Set<Integer> in() {
        Set<Integer> in = new HashSet<>();
        for (int s = 0; s < stands.size(); s++) if (stands.get(s).in) in.add(s);
        return in;
    }

    int can(int s) {
        if (noStand(s) || !stands.get(s).laid) return NONE;
        return !stands.get(s).in && reached(stands.get(s), in()) ? 1 : 0;
    }

    int bring(int s) {
        if (noStand(s) || !stands.get(s).laid) return NONE;
        if (stands.get(s).in) return STATE;
        if (can(s) == 0) return 0;
        stands.get(s).in = true;
        return 1;
    }

    int clear() {
        int had = in().size();
        for (S s : stands) s.in = false;
        return had;
    }

    int row(int i) {
        List<Integer> order = new ArrayList<>();
        long laid = stands.stream().filter(s -> s.laid).count();
        if (!complete(order, laid, new HashSet<>())) return NONE;
        return i < 0 || i >= order.size() ? NONE : order.get(i);
    }

    private boolean complete(List<Integer> order, long laid, Set<Set<Integer>> dead) {
        if (order.size() == laid) return true;
        Set<Integer> in = new HashSet<>(order);
        if (dead.contains(in)) return false;
        for (int s = 0; s < stands.size(); s++) {
            if (!stands.get(s).laid || in.contains(s) || !reached(stands.get(s), in)) continue;
            order.add(s);
            if (complete(order, laid, dead)) return true;
            order.remove(order.size() - 1);
        }
        dead.add(in);
        return false;
    }

    int feed(long word, int n) {
        if (n < 1 || n > 8) return BAD;
        if (tape.length() + n > 120) return FULL;
        for (int i = n - 1; i >= 0; i--) tape += (char) (word >> 8 * i & 255);
        return tape.length();
    }

    int text(int sort, int from) {
        if (sort < 0 || sort > 1 || from < 0 || from > 999) return BAD;
        if (texts.get(sort).size() == 6) return FULL;
        String words = tape;
        tape = "";
        Pattern pattern = sort == 0 ? MEDALS : DAYS;
        if (pattern.matcher(words).matches()) {
            texts.get(sort).add(new Told(words, from));
            return texts.get(sort).size();
        }
        int good = 0;
        while (good < words.length() && begins(pattern, words.substring(0, good + 1))) good++;
        return -10 - good;
    }

    private static boolean begins(Pattern pattern, String words) {
        Matcher matcher = pattern.matcher(words);
        return matcher.matches() || matcher.hitEnd();
    }

    private String force(int sort, int on) {
        for (int d = Math.min(on, 999); d >= 0; d--) {
            for (int i = texts.get(sort).size() - 1; i >= 0; i--) {
                if (texts.get(sort).get(i).day() == d) return texts.get(sort).get(i).words();
            }
        }
        return null;
    }

    int juror(int land, int of) {
        if (land < 0 || land > 7 || of < 0 || of > 9) return BAD;
        if (jurors.size() == 12) return FULL;
        jurors.add(new int[] {land, of});
        return jurors.size() - 1;
    }

    int mark(int juror, int s, int v, int on) {
        if (juror < 0 || juror >= jurors.size() || noStand(s)) return -5;
        if (v < 0 || v > 100 || on < 0 || on > 999) return BAD;
        if (jurors.get(juror)[0] == stands.get(s).land || jurors.get(juror)[1] != stands.get(s).of) return STATE;
        Mark was = marks.put(List.of(juror, s), new Mark(v, on));
        return was == null ? NONE : was.value();
    }

    int mean(int s, int on) {
        if (noStand(s)) return NONE;
        int[] values = marks.entrySet().stream().filter(e -> e.getKey().get(1) == s && e.getValue().day() <= on)
            .mapToInt(e -> e.getValue().value()).toArray();
        return values.length < 2 ? NONE : Arrays.stream(values).sum() / values.length;
    }

    int medal(int s, int on) {
        if (noStand(s)) return NONE;
        String words = force(0, on);
        if (words == null || mean(s, on) == NONE) return 0;
        for (String part : words.split(",")) {
            String[] p = part.split(" at ");
            if (mean(s, on) >= Integer.parseInt(p[1])) return List.of("none", "bronze", "silver", "gold").indexOf(p[0]);
        }
        return 0;
    }

    int cost(int on) {
        if (on < 0) return NONE;
        String words = force(1, on);
        if (words == null) return 0;
        for (String part : words.substring(4).split(",")) {
            String[] p = part.split(" on ");
            if (p.length == 1 || Integer.parseInt(p[1]) == on % 7) return Integer.parseInt(p[0]);
        }
        return 0;
    }

    int most(int n) {
        if (n < 1 || n > 20000) return BAD;
        int was = most;
        most = n;
        return was;
    }

    int minute(int come, int go) {
        if (come < 0 || come > 2000 || go < 0 || go > 2000) return BAD;
        if (minutes == 600) return FULL;
        minutes++;
        for (int i = 0; i < go && inside > 0; i++) inside--;
        outside += come;
        int each = cost(day);
        while (outside > 0 && inside < most) {
            outside--;
            inside++;
            takings += each;
            allTakings += each;
        }
        return inside;
    }

    int bell() {
        if (day == 999) return FULL;
        inside = 0;
        outside = 0;
        minutes = 0;
        takings = 0;
        return ++day;
    }

    int sight(int c, int minute) {
        if (noCell(c)) return NONE;
        if (minute < 0 || minute > 10000 || kind[c / w][c % w] > 1) return BAD;
        if (!sights.isEmpty() && minute <= sights.get(sights.size() - 1)[1]) return BAD;
        if (sights.size() == 10) return FULL;
        sights.add(new int[] {c, minute});
        return sights.size();
    }

    private boolean[] possible(int minute) {
        int[] latest = sights.get(sights.size() - 1);
        boolean[] now = new boolean[w * h];
        now[latest[0]] = true;
        for (int i = 0; i < Math.min(minute - latest[1], 70); i++) {
            boolean[] next = new boolean[w * h];
            for (int c = 0; c < w * h; c++) {
                boolean free = kind[c / w][c % w] < 2 && at(c) == NONE || c == latest[0];
                if (!free) continue;
                next[c] = now[c];
                for (int[] step : STEPS) {
                    int x = c % w + step[0], y = c / w + step[1];
                    if (inHall(x, y) && now[y * w + x]) next[c] = true;
                }
            }
            now = next;
        }
        return now;
    }

    int canBe(int c, int minute) {
        if (noCell(c)) return NONE;
        if (!sights.isEmpty() && minute < sights.get(sights.size() - 1)[1]) return BAD;
        if (sights.isEmpty()) return STATE;
        return possible(minute)[c] ? 1 : 0;
    }

    int places(int minute) {
        if (sights.isEmpty()) return STATE;
        if (minute < sights.get(sights.size() - 1)[1]) return BAD;
        int n = 0;
        for (boolean b : possible(minute)) if (b) n++;
        return n;
    }

    int found() {
        int n = sights.size();
        sights.clear();
        return n;
    }

    int sell(int s, int who) {
        if (noStand(s)) return NONE;
        if (who < 0 || who > 999) return BAD;
        S one = stands.get(s);
        if (one.buyer != null || !one.in) return STATE;
        one.buyer = who;
        return 0;
    }

    int hand(int s) {
        if (noStand(s)) return NONE;
        S one = stands.get(s);
        if (one.buyer == null || one.handed || day < end) return STATE;
        one.handed = true;
        one.in = false;
        one.laid = false;
        return one.buyer;
    }

    int end(int on) {
        if (on < 0 || on > 999) return BAD;
        int was = end;
        end = on;
        return was;
    }

    int count(int what) {
        int laid = 0, handed = 0;
        for (S s : stands) {
            if (s.laid) laid++;
            if (s.handed) handed++;
        }
        int[] all = {w * h, stands.size(), laid, in().size(), jurors.size(), marks.size(), day, minutes, inside, outside,
            takings, allTakings, tape.length(), handed};
        return what < 0 || what >= all.length ? NONE : all[what];
    }
}
