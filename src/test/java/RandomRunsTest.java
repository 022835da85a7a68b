import java.lang.reflect.InvocationTargetException;
import java.lang.reflect.Method;
import java.util.ArrayList;
import java.util.Arrays;
import java.util.HashMap;
import java.util.List;
import java.util.Map;
import java.util.Random;
import java.util.TreeMap;

/** Long runs of drawn calls: LightList must answer each as PlainOffice does. The seeds are fixed. */
public final class RandomRunsTest {
    private static final int RUNS = 1500;
    private static final int CALLS = 500;
    private static final Map<String, Method> OFFICE = new HashMap<>();
    private static final Map<String, Method> PLAIN = new HashMap<>();
    private static final Map<String, Map<String, Integer>> ANSWERS = new TreeMap<>();

    private static int wrong = 0;

    private final Random random;
    private final LightList office = new LightList();
    private final PlainOffice plain = new PlainOffice();
    private final List<String> told = new ArrayList<>();
    /** How near lights lie, how many rhythms there are: small worlds meet more often. */
    private final int spread;
    private final int rhythms;
    private boolean differs = false;

    private RandomRunsTest(long seed) {
        random = new Random(seed);
        spread = new int[] {3, 30, 300, 1000}[random.nextInt(4)];
        rhythms = new int[] {2, 4, 40, 600}[random.nextInt(4)];
    }

    public static void main(String[] args) throws Exception {
        for (Method m : LightList.class.getDeclaredMethods()) OFFICE.put(m.getName(), m);
        for (Method m : PlainOffice.class.getDeclaredMethods()) PLAIN.put(m.getName(), m);
        int runs = args.length > 0 ? Integer.parseInt(args[0]) : RUNS;
        long first = args.length > 1 ? Long.parseLong(args[1]) : 1;
        for (long seed = first; seed < first + runs && wrong < 5; seed++) new RandomRunsTest(seed).run(seed);
        if (args.length > 2) ANSWERS.forEach((name, seen) -> System.out.println(name + " " + seen));
        System.out.println(wrong == 0 ? "random runs: all answers are alike" : "random runs: " + wrong + " differ");
        if (wrong != 0) System.exit(1);
    }

    private void run(long seed) throws Exception {
        int busy = random.nextInt(4);
        for (int c = 0; c < CALLS && !differs; c++) {
            if (random.nextInt(10) < 6) build(busy); else look();
        }
        if (differs) {
            wrong++;
            System.out.println("seed " + seed + ":\n  " + String.join("\n  ", told.subList(Math.max(0, told.size() - 400), told.size())));
        }
    }

    private int call(String name, int... args) throws Exception {
        Object[] boxed = Arrays.stream(args).boxed().toArray();
        int got;
        try {
            got = answer(OFFICE.get(name).invoke(office, boxed));
        } catch (InvocationTargetException e) {
            e.getCause().printStackTrace();
            got = Integer.MIN_VALUE;
        }
        int due = answer(PLAIN.get(name).invoke(plain, boxed));
        told.add(name + Arrays.toString(args) + " answered " + got + ", due is " + due);
        if (got != due) differs = true;
        String kind = due > 0 ? "above 0" : due < -3 ? "below -3" : String.valueOf(due);
        ANSWERS.computeIfAbsent(name, n -> new TreeMap<>()).merge(kind, 1, Integer::sum);
        return got;
    }

    private static int answer(Object o) {
        return o instanceof Boolean b ? b ? 1 : 0 : (Integer) o;
    }

    // ---- drawing ----

    private boolean rarely() { return random.nextInt(25) == 0; }

    private int between(int least, int greatest) {
        if (rarely()) {
            int[] odd = {least - 1, greatest + 1, least, greatest, Integer.MIN_VALUE, Integer.MAX_VALUE, -1, 0};
            return odd[random.nextInt(odd.length)];
        }
        return least + random.nextInt(greatest - least + 1);
    }

    private int coordinate() { return between(-spread, spread); }

    private int way() { return random.nextInt(3) == 0 ? between(-1000, 1000) : between(-2, 2); }

    private int numbered(int what) { return between(0, Math.max(0, office.about(what) - 1)); }

    private int day() { return random.nextInt(4) == 0 ? between(0, 10000) : between(0, 6); }

    private int place() { return between(0, random.nextInt(3) == 0 ? 99 : 9); }

    private int error() { return random.nextInt(2) == 0 ? 0 : random.nextInt(3) == 0 ? between(0, 50) : between(0, 2); }

    private void row(int length) throws Exception {
        if (!rarely()) call("tear");
        for (int i = 0; i < length; i++) call("span", rarely() ? between(1, 600) : 1 + random.nextInt(rhythms));
    }

    private void characterRow() throws Exception {
        row(rarely() ? random.nextInt(26) : 2 * (1 + random.nextInt(random.nextInt(5) == 0 ? 12 : 2)));
    }

    // ---- acts ----

    private void build(int busy) throws Exception {
        switch (random.nextInt(15)) {
            case 0: case 1: case 2: buildLight(); break;
            case 3: call("mark", place(), between(0, 1000)); break;
            case 4: if (random.nextInt(3) == 0) call("clear", place()); break;
            case 5: case 6: call("direct", sectorPlace(), way(), way(), between(1, 3)); break;
            case 7: if (random.nextInt(busy + 1) == 0) call("haze", hazeBits()); break;
            case 8: buildNotice(); break;
            case 9: call("days", day(), day()); break;
            case 10: case 11: buildSighting(); break;
            case 12: buildBearing(); break;
            case 13: if (random.nextInt(3) == 0) call("water", coordinate(), coordinate());
                     else { characterRow(); call("offer"); } break;
            default: buildPast(); break;
        }
    }

    private void buildLight() throws Exception {
        int kind = between(0, 5);
        int n = 0;
        switch (kind) {
            case 0: row(0); break;
            case 2: row(3); n = between(2, 8); break;
            case 3: row(2); n = between(2, random.nextInt(2) == 0 ? 127 : 5); break;
            case 5: characterRow(); n = between(1, 3); break;
            default: characterRow(); break;
        }
        int reach = random.nextInt(4) == 0 ? between(1, 2000) : between(1, 3 * spread > 2000 ? 2000 : 3 * spread);
        call("light", between(0, 99), kind, n, coordinate(), coordinate(), reach, between(1, 3));
    }

    private int sectorPlace() {
        for (int k = 0; k < 20; k++) {
            int place = random.nextInt(100);
            if (office.holds(place) == 5) return place;
        }
        return place();
    }

    private int hazeBits() {
        switch (random.nextInt(4)) {
            case 0: return random.nextInt();
            case 1: return Float.floatToIntBits(random.nextInt(102) / 100f) + random.nextInt(3) - 1;
            case 2: return Float.floatToIntBits(random.nextFloat() * 1.1f);
            default: return 0;
        }
    }

    private void buildNotice() throws Exception {
        int what = between(0, 2);
        if (what == 1) characterRow();
        int from = day();
        int until = random.nextInt(2) == 0 ? -1 : from + between(1, 5);
        boolean moved = what == 2 || rarely();
        call("notice", numbered(0), what, moved ? coordinate() : 0, moved ? coordinate() : 0, from, until, day());
    }

    /** Mostly what a ship would count of a LIGHT that is there. */
    private void buildSighting() throws Exception {
        int light = numbered(0);
        int spans = office.of(light, 1);
        int flags = random.nextInt(8);
        if (spans > 0 && !rarely()) {
            call("tear");
            int start = random.nextInt(spans);
            flags = flags & 6 | (start % 2 == 0 ? 1 : 0);
            int length = 1 + random.nextInt(random.nextInt(4) == 0 ? 24 : 3);
            for (int i = 0; i < length; i++) {
                int off = random.nextInt(3) == 0 ? random.nextInt(3) - 1 : 0;
                call("span", office.spanOf(light, (start + i) % spans) + off);
            }
        } else {
            row(random.nextInt(2));
            if (!rarely() && office.about(4) == 0) flags = flags & 1;
            if (random.nextInt(2) == 0 && office.about(4) > 0) flags = 7;
        }
        boolean near = office.about(0) > 0 && random.nextInt(3) != 0 && light >= 0 && light < office.about(0);
        int x = near ? office.of(light, 2) + random.nextInt(11) - 5 : coordinate();
        int y = near ? office.of(light, 3) + random.nextInt(11) - 5 : coordinate();
        int r = between(0, random.nextInt(3) == 0 ? 20 : 3);
        int sighting = call("sight", x, y, r, random.nextInt(5) == 0 ? between(1, 15) : between(1, 3), error(), flags);
        if (sighting >= 0 && near && random.nextInt(2) == 0) {
            call("bear", sighting, office.of(light, 2) - x, office.of(light, 3) - y);
        }
    }

    private void buildBearing() throws Exception {
        call("bear", numbered(2), way(), way());
    }

    private void buildPast() throws Exception {
        switch (random.nextInt(6)) {
            case 0: call("keep", between(0, 2)); break;
            case 1: if (random.nextInt(4) == 0) call("back", between(0, 2)); break;
            case 2: call("undo", between(0, random.nextInt(10) == 0 ? 50 : 4)); break;
            default: call("undo", between(0, 1)); break;
        }
    }

    // ---- questions ----

    private void look() throws Exception {
        int light = numbered(0);
        int sighting = numbered(2);
        switch (random.nextInt(19)) {
            case 0: call("holds", place()); break;
            case 1: call("number", place()); break;
            case 2: call("lit", light); break;
            case 3: call("of", light, between(0, 7)); break;
            case 4: call("spanOf", light, between(0, 3)); break;
            case 5: case 6: call("at", light, random.nextInt(3) == 0 ? random.nextInt() : between(0, 20), coordinate(), coordinate()); break;
            case 7: call("fits", sighting, light); break;
            case 8: call("which", sighting); break;
            case 9: call("one", sighting, between(0, 3)); break;
            case 10: call("sure", sighting); break;
            case 11: call("ask", sighting); break;
            case 12: if (random.nextInt(4) == 0) call("cross", 2 * between(10, 100)); break;
            case 13: if (random.nextInt(4) == 0) call("square", rarely() ? between(20, 200) : 2 * between(10, 100), between(0, random.nextInt(2) == 0 ? 5 : 200)); break;
            case 14: call("apart", light, numbered(0), error()); break;
            case 15: call("check", error()); break;
            case 16: call("give", between(1, random.nextInt(2) == 0 ? 6 : 3), error()); break;
            case 17: call("given", between(0, 5)); break;
            default: call("about", between(0, 10)); break;
        }
    }
}
