import java.util.ArrayList;
import java.util.Collections;
import java.util.List;

/**
 * The document a second time, as slowly and plainly as it can be said: whole copies for what was, tenth after
 * tenth for rhythms, place after place for squares, angles as doubles. RandomRunsTest holds LightList against it.
 */
final class PlainOffice {
    static final class Way {
        int dx, dy, colour;
    }

    static final class Lamp {
        int place, kind, n, x, y, reach, colour;
        List<Integer> spans = new ArrayList<>();
        List<Way> ways = new ArrayList<>();

        Lamp copy() {
            Lamp c = new Lamp();
            c.place = place; c.kind = kind; c.n = n; c.x = x; c.y = y; c.reach = reach; c.colour = colour;
            c.spans = spans;
            c.ways = new ArrayList<>(ways);
            return c;
        }
    }

    static final class Told {
        int light, what, x, y, from, until, known;
        List<Integer> spans;
    }

    static final class Seen {
        int x, y, r, colour, error, dx, dy;
        boolean light, cutFirst, cutLast, bears;
        List<Integer> counted;

        Seen copy() {
            Seen c = new Seen();
            c.x = x; c.y = y; c.r = r; c.colour = colour; c.error = error; c.dx = dx; c.dy = dy;
            c.light = light; c.cutFirst = cutFirst; c.cutLast = cutLast; c.bears = bears; c.counted = counted;
            return c;
        }
    }

    static final class All {
        Object[] places = new Object[100];
        List<Lamp> lamps = new ArrayList<>();
        List<Told> told = new ArrayList<>();
        List<Seen> seen = new ArrayList<>();
        List<List<Integer>> offers = new ArrayList<>();
        int haze, day, known, wx, wy;

        All copy() {
            All c = new All();
            c.places = places.clone();
            for (Lamp l : lamps) c.lamps.add(l.copy());
            c.told.addAll(told);
            for (Seen s : seen) c.seen.add(s.copy());
            c.offers.addAll(offers);
            c.haze = haze; c.day = day; c.known = known; c.wx = wx; c.wy = wy;
            return c;
        }
    }

    private List<Integer> row = new ArrayList<>();
    private All all = new All();
    private final All[] images = {new All(), new All(), new All()};
    private final List<All> before = new ArrayList<>();
    private List<Integer> gave = new ArrayList<>();

    private void act() {
        before.add(all.copy());
        if (before.size() > 50) before.remove(0);
    }

    private static boolean in(int v, int lo, int hi) { return lo <= v && v <= hi; }

    private static int sum(List<Integer> l) { int s = 0; for (int v : l) s += v; return s; }

    private boolean character() { return row.size() >= 2 && row.size() % 2 == 0 && sum(row) <= 1200; }

    private List<Integer> takeRow() { List<Integer> r = row; row = new ArrayList<>(); return r; }

    int span(int t) {
        if (!in(t, 1, 600) || row.size() == 24) return -1;
        row.add(t);
        return row.size();
    }

    int tear() { return takeRow().size(); }

    int light(int place, int kind, int n, int x, int y, int reach, int colour) {
        if (!in(place, 0, 99) || all.places[place] != null || !in(kind, 0, 5)) return -1;
        if (!in(x, -1000, 1000) || !in(y, -1000, 1000) || !in(reach, 1, 2000) || !in(colour, 1, 3)) return -1;
        if (all.lamps.size() == 60) return -1;
        List<Integer> spans = new ArrayList<>();
        if (kind == 0) {
            if (!row.isEmpty() || n != 0) return -1;
        } else if (kind == 1 || kind == 4 || kind == 5) {
            if (!character()) return -1;
            if (kind == 5 ? !in(n, 1, 3) : n != 0) return -1;
            spans.addAll(row);
        } else if (kind == 2) {
            if (row.size() != 3 || !in(n, 2, 8)) return -1;
            for (int f = 0; f < n; f++) { spans.add(row.get(0)); spans.add(row.get(1)); }
            spans.set(spans.size() - 1, row.get(2));
        } else {
            if (row.size() != 2 || !in(n, 2, 127)) return -1;
            for (char c : Integer.toBinaryString(n).substring(1).toCharArray()) {
                spans.add(c == '1' ? 3 * row.get(0) : row.get(0));
                spans.add(row.get(0));
            }
            spans.set(spans.size() - 1, row.get(1));
        }
        if (sum(spans) > 1200) return -1;
        act();
        row = new ArrayList<>();
        Lamp l = new Lamp();
        l.place = place; l.kind = kind; l.n = n; l.x = x; l.y = y; l.reach = reach; l.colour = colour; l.spans = spans;
        all.places[place] = "light " + all.lamps.size();
        all.lamps.add(l);
        return all.lamps.size() - 1;
    }

    boolean mark(int place, int number) {
        if (!in(place, 0, 99) || all.places[place] != null || !in(number, 0, 1000)) return false;
        act();
        all.places[place] = number;
        return true;
    }

    boolean clear(int place) {
        if (!in(place, 0, 99) || !(all.places[place] instanceof Integer)) return false;
        act();
        all.places[place] = null;
        return true;
    }

    private int lampAt(int place) {
        for (int i = 0; i < all.lamps.size(); i++) if (all.lamps.get(i).place == place) return i;
        return -1;
    }

    int holds(int place) {
        if (!in(place, 0, 99)) return -1;
        if (all.places[place] == null) return 0;
        if (all.places[place] instanceof Integer) return 7;
        return all.lamps.get(lampAt(place)).kind + 1;
    }

    int number(int place) {
        if (!in(place, 0, 99)) return -1;
        if (all.places[place] instanceof Integer m) return m;
        return lampAt(place);
    }

    private static double angle(int dx, int dy) {
        double a = Math.atan2(dy, dx);
        return a < 0 ? a + 2 * Math.PI : a;
    }

    int direct(int place, int dx, int dy, int colour) {
        if (!in(place, 0, 99)) return -1;
        int i = lampAt(place);
        if (i < 0 || all.lamps.get(i).kind != 4) return -2;
        if (!in(dx, -1000, 1000) || !in(dy, -1000, 1000) || dx == 0 && dy == 0 || !in(colour, 1, 3)) return -1;
        for (Way w : all.lamps.get(i).ways) if (Math.abs(angle(w.dx, w.dy) - angle(dx, dy)) < 1e-9) return -1;
        if (all.lamps.get(i).ways.size() == 8) return -1;
        act();
        Way w = new Way();
        w.dx = dx; w.dy = dy; w.colour = colour;
        all.lamps.get(i).ways.add(w);
        return all.lamps.get(i).ways.size();
    }

    int haze(int bits) {
        act();
        float h = Float.intBitsToFloat(bits);
        all.haze = Float.isNaN(h) || h < 0 ? 0 : h > 1 ? 100 : (int) (h * 100f);
        return all.haze;
    }

    int notice(int light, int what, int x, int y, int from, int until, int known) {
        if (!in(light, 0, all.lamps.size() - 1) || !in(what, 0, 2) || all.told.size() == 100) return -1;
        if (!in(from, 0, 10000) || !in(known, 0, 10000)) return -1;
        if (until != -1 && (!in(until, 0, 10000) || until <= from)) return -1;
        if (what == 2 ? !in(x, -1000, 1000) || !in(y, -1000, 1000) : x != 0 || y != 0) return -1;
        if (what == 1 && (!character() || all.lamps.get(light).kind == 0)) return -1;
        act();
        Told t = new Told();
        t.light = light; t.what = what; t.x = x; t.y = y; t.from = from; t.until = until; t.known = known;
        if (what == 1) t.spans = takeRow();
        all.told.add(t);
        return all.told.size() - 1;
    }

    boolean days(int day, int known) {
        if (!in(day, 0, 10000) || !in(known, 0, 10000)) return false;
        act();
        all.day = day;
        all.known = known;
        return true;
    }

    /** The NOTICES that count, in their order. */
    private List<Told> holding(int light) {
        List<Told> l = new ArrayList<>();
        for (Told t : all.told) {
            if (t.light == light && t.known <= all.known && t.from <= all.day && (t.until == -1 || all.day < t.until)) l.add(t);
        }
        Collections.sort(l, (a, b) -> Integer.compare(a.from, b.from));
        return l;
    }

    /** The LIGHT with all that NOTICES did to it; reach 0 stands for OUT. */
    private Lamp now(int light) {
        Lamp l = all.lamps.get(light).copy();
        l.reach = l.reach * (100 - all.haze) / 100;
        for (Told t : holding(light)) {
            if (t.what == 1) l.spans = t.spans;
            if (t.what == 2) { l.x = t.x; l.y = t.y; }
        }
        return l;
    }

    private boolean isLight(int light) { return in(light, 0, all.lamps.size() - 1); }

    int lit(int light) {
        if (!isLight(light)) return -1;
        for (Told t : holding(light)) if (t.what == 0) return 0;
        return 1;
    }

    int of(int light, int what) {
        if (!isLight(light) || !in(what, 0, 7)) return -1;
        Lamp l = now(light);
        int[] answers = {l.kind == 0 ? 1 : sum(l.spans), l.spans.size(), l.x, l.y, l.reach, l.kind, l.place, l.ways.size()};
        return answers[what];
    }

    int spanOf(int light, int i) {
        if (!isLight(light) || !in(i, 0, now(light).spans.size() - 1)) return -1;
        return now(light).spans.get(i);
    }

    private boolean sees(int light, int x, int y) {
        Lamp l = now(light);
        long dx = x - l.x, dy = y - l.y;
        return lit(light) == 1 && dx * dx + dy * dy <= (long) l.reach * l.reach;
    }

    private int colourTo(Lamp l, int x, int y) {
        if (l.kind == 5) return l.colour + 4 * l.n;
        if (l.kind != 4 || l.ways.isEmpty() || x == l.x && y == l.y) return l.colour;
        double ship = angle(x - l.x, y - l.y);
        Way last = null, best = null;
        for (Way w : l.ways) {
            double a = angle(w.dx, w.dy);
            if (last == null || a > angle(last.dx, last.dy)) last = w;
            if (a < ship + 1e-9 && (best == null || a > angle(best.dx, best.dy))) best = w;
        }
        return best == null ? last.colour : best.colour;
    }

    /** Every tenth of one PERIOD: whether it is light. */
    private static boolean[] tenths(List<Integer> spans) {
        boolean[] b = new boolean[sum(spans)];
        int t = 0;
        for (int i = 0; i < spans.size(); i++) for (int k = 0; k < spans.get(i); k++) b[t++] = i % 2 == 0;
        return b;
    }

    int at(int light, int t, int x, int y) {
        if (!isLight(light) || t < 0 || !in(x, -2000, 2000) || !in(y, -2000, 2000)) return -1;
        if (!sees(light, x, y)) return 0;
        Lamp l = now(light);
        boolean on = l.kind == 0;
        if (!on) { boolean[] b = tenths(l.spans); on = b[t % b.length]; }
        if (on) return colourTo(l, x, y);
        return l.kind == 5 ? 4 * l.n : 0;
    }

    int sight(int x, int y, int r, int colour, int error, int flags) {
        if (!in(x, -1000, 1000) || !in(y, -1000, 1000) || !in(r, 0, 20) || !in(colour, 1, 15)) return -1;
        if (!in(error, 0, 50) || !in(flags, 0, 7) || all.seen.size() == 100) return -1;
        if (row.isEmpty() && (flags & 6) != 0) return -1;
        act();
        Seen s = new Seen();
        s.x = x; s.y = y; s.r = r; s.colour = colour; s.error = error;
        s.light = (flags & 1) != 0; s.cutFirst = (flags & 2) != 0; s.cutLast = (flags & 4) != 0;
        s.counted = takeRow();
        all.seen.add(s);
        return all.seen.size() - 1;
    }

    private boolean isSighting(int s) { return in(s, 0, all.seen.size() - 1); }

    boolean bear(int sighting, int dx, int dy) {
        if (!isSighting(sighting) || !in(dx, -1000, 1000) || !in(dy, -1000, 1000) || dx == 0 && dy == 0) return false;
        act();
        Seen s = all.seen.get(sighting);
        s.bears = true; s.dx = dx; s.dy = dy;
        return true;
    }

    /** The SPANS from which on what was counted fits. */
    private static List<Integer> starts(Seen s, List<Integer> spans) {
        List<Integer> found = new ArrayList<>();
        int last = s.counted.size() - 1;
        for (int start = 0; start < spans.size(); start++) {
            boolean good = (start % 2 == 0) == s.light;
            int at = start;
            for (int i = 0; i <= last; i++) {
                int is = spans.get(at), was = s.counted.get(i);
                boolean cut = i == 0 && s.cutFirst || i == last && s.cutLast;
                good &= cut ? is + s.error >= was : Math.abs(is - was) <= s.error;
                at = at + 1 == spans.size() ? 0 : at + 1;
            }
            if (good) found.add(start);
        }
        return found;
    }

    private boolean fitting(Seen s, Lamp l) {
        if (s.counted.isEmpty()) return true;
        if (l.kind == 0) return s.counted.size() == 1 && s.light && s.cutFirst && s.cutLast;
        return !starts(s, l.spans).isEmpty();
    }

    int fits(int sighting, int light) {
        if (!isSighting(sighting) || !isLight(light)) return -1;
        return fitting(all.seen.get(sighting), now(light)) ? 1 : 0;
    }

    private List<Integer> canBe(Seen s) {
        List<Integer> found = new ArrayList<>();
        for (int light = 0; light < all.lamps.size(); light++) {
            Lamp l = now(light);
            if (!fitting(s, l) || lit(light) == 0) continue;
            boolean shown = false;
            for (int x = s.x - s.r; x <= s.x + s.r; x++) {
                for (int y = s.y - s.r; y <= s.y + s.r; y++) {
                    long dx = x - l.x, dy = y - l.y;
                    shown |= dx * dx + dy * dy <= (long) l.reach * l.reach && colourTo(l, x, y) == s.colour;
                }
            }
            if (shown) found.add(light);
        }
        return found;
    }

    int which(int sighting) { return isSighting(sighting) ? canBe(all.seen.get(sighting)).size() : -1; }

    int one(int sighting, int k) {
        if (!isSighting(sighting)) return -1;
        List<Integer> l = canBe(all.seen.get(sighting));
        return in(k, 0, l.size() - 1) ? l.get(k) : -1;
    }

    int sure(int sighting) { return which(sighting) == 1 ? one(sighting, 0) : -1; }

    /** The tenths of a PERIOD, from the beginning of one of its SPANS on. */
    private static boolean[] tenthsFrom(List<Integer> spans, int span) {
        boolean[] b = tenths(spans);
        boolean[] turned = new boolean[b.length];
        int first = sum(spans.subList(0, span));
        for (int t = 0; t < b.length; t++) turned[t] = b[(t + first) % b.length];
        return turned;
    }

    private static List<Integer> behind(Seen s, List<Integer> spans) {
        List<Integer> found = new ArrayList<>();
        if (s.counted.isEmpty()) for (int i = 0; i < spans.size(); i++) found.add(i);
        else for (int start : starts(s, spans)) found.add((start + s.counted.size()) % spans.size());
        return found;
    }

    int ask(int sighting) {
        if (!isSighting(sighting)) return -1;
        Seen s = all.seen.get(sighting);
        List<Integer> can = canBe(s);
        if (can.size() < 2) return 0;
        if (s.cutLast || can.size() > 8) return -3;
        for (int light : can) if (all.lamps.get(light).kind == 0) return -3;
        int greatest = 0;
        for (int a : can) for (int b : can) if (a < b) {
            for (int i : behind(s, now(a).spans)) for (int j : behind(s, now(b).spans)) {
                boolean[] one = tenthsFrom(now(a).spans, i), other = tenthsFrom(now(b).spans, j);
                int t = 0, end = one.length * other.length;
                while (t < end && one[t % one.length] == other[t % other.length]) t++;
                if (t == end) return -2;
                greatest = Math.max(greatest, t + 1);
            }
        }
        return greatest;
    }

    private boolean canBeAt(Seen s, int light, int g, int mx, int my) {
        Lamp l = now(light);
        if (!in(mx, s.x - s.r - g, s.x + s.r + g) || !in(my, s.y - s.r - g, s.y + s.r + g)) return false;
        long vx = l.x - mx, vy = l.y - my;
        return (vx != 0 || vy != 0) && 16 * Math.abs(s.dx * vy - s.dy * vx) <= s.dx * vx + s.dy * vy;
    }

    /** The squares that are left, or the SIGHTING with which none is, as a list with -2 less its number. */
    private List<Integer> left(int g) {
        List<Integer> squares = new ArrayList<>();
        for (int j = 0; -1000 + g * j <= 999; j++) for (int i = 0; -1000 + g * i <= 999; i++) squares.add(i + 1000 * j);
        for (int k = 0; k < all.seen.size(); k++) {
            Seen s = all.seen.get(k);
            if (!s.bears || sure(k) == -1) continue;
            int light = sure(k);
            squares.removeIf(q -> !canBeAt(s, light, g, -1000 + g * (q % 1000) + g / 2, -1000 + g * (q / 1000) + g / 2));
            if (squares.isEmpty()) return List.of(-2 - k);
        }
        return squares;
    }

    int cross(int g) {
        if (!in(g, 20, 200) || g % 2 != 0) return -1;
        List<Integer> l = left(g);
        return l.get(0) < 0 ? l.get(0) : l.size();
    }

    int square(int g, int k) {
        if (!in(g, 20, 200) || g % 2 != 0) return -1;
        List<Integer> l = left(g);
        return l.get(0) < 0 || !in(k, 0, l.size() - 1) ? -1 : l.get(k);
    }

    boolean water(int x, int y) {
        if (!in(x, -1000, 1000) || !in(y, -1000, 1000)) return false;
        act();
        all.wx = x;
        all.wy = y;
        return true;
    }

    int offer() {
        if (!character() || all.offers.size() == 12) return -1;
        act();
        all.offers.add(takeRow());
        return all.offers.size() - 1;
    }

    private static boolean twiceFits(List<Integer> one, List<Integer> other, int error) {
        Seen s = new Seen();
        s.light = true;
        s.error = error;
        s.counted = new ArrayList<>(one);
        s.counted.addAll(one);
        return !starts(s, other).isEmpty();
    }

    /** FIXED ones have no SPANS. */
    private static boolean isApart(List<Integer> a, List<Integer> b, int error) {
        if (a.isEmpty() || b.isEmpty()) return a.size() != b.size();
        return !twiceFits(a, b, error) && !twiceFits(b, a, error);
    }

    int apart(int a, int b, int error) {
        if (!isLight(a) || !isLight(b) || a == b || !in(error, 0, 50)) return -1;
        return isApart(now(a).spans, now(b).spans, error) ? 1 : 0;
    }

    int check(int error) {
        if (!in(error, 0, 50)) return -1;
        for (int a = 0; a < all.lamps.size(); a++) for (int b = a + 1; b < all.lamps.size(); b++) {
            if (sees(a, all.wx, all.wy) && sees(b, all.wx, all.wy) && apart(a, b, error) == 0) return 64 * a + b;
        }
        return -2;
    }

    private int leastSum;
    private List<Integer> least;

    private void choose(int from, int n, int error, List<Integer> chosen) {
        if (chosen.size() == n) {
            int s = 0;
            for (int o : chosen) s += sum(all.offers.get(o));
            // they are tried in their order, so only a lesser sum takes the place
            if (least == null || s < leastSum) { leastSum = s; least = new ArrayList<>(chosen); }
            return;
        }
        for (int o = from; o < all.offers.size(); o++) {
            boolean good = true;
            for (int c : chosen) good &= isApart(all.offers.get(c), all.offers.get(o), error);
            for (int l = 0; l < all.lamps.size(); l++) {
                if (sees(l, all.wx, all.wy)) good &= isApart(now(l).spans, all.offers.get(o), error);
            }
            if (!good) continue;
            chosen.add(o);
            choose(o + 1, n, error, chosen);
            chosen.remove(chosen.size() - 1);
        }
    }

    int give(int n, int error) {
        if (!in(n, 1, 6) || !in(error, 0, 50)) return -1;
        least = null;
        choose(0, n, error, new ArrayList<>());
        if (least == null) return -2;
        gave = least;
        return leastSum;
    }

    int given(int k) { return in(k, 0, gave.size() - 1) ? gave.get(k) : -1; }

    int undo(int n) {
        if (!in(n, 0, 50) || n > before.size()) return -1;
        for (int k = 0; k < n; k++) all = before.remove(before.size() - 1);
        return n;
    }

    boolean keep(int k) {
        if (!in(k, 0, 2)) return false;
        images[k] = all.copy();
        return true;
    }

    boolean back(int k) {
        if (!in(k, 0, 2)) return false;
        all = images[k].copy();
        before.clear();
        return true;
    }

    int about(int what) {
        int[] answers = {all.lamps.size(), all.told.size(), all.seen.size(), all.offers.size(), row.size(),
            all.day, all.known, all.haze, before.size(), all.wx, all.wy};
        return in(what, 0, 10) ? answers[what] : -1;
    }
}
