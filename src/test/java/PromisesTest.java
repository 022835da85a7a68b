/** Each promise of the document by hand-made runs: ordinary inputs, the edges it names, wrong inputs. */
public final class PromisesTest {
    private static final int NONE = -1;
    private static final int FIXED = 0, FLASH = 1, GROUP = 2, MORSE = 3, SECTOR = 4, SISTER = 5;
    private static final int OUT = 0, CHANGED = 1, MOVED = 2;
    private static final int LIGHT_FIRST = 1, CUT_FIRST = 2, CUT_LAST = 4;
    private static final int LEAST = Integer.MIN_VALUE, MOST = Integer.MAX_VALUE;

    private static int asked = 0;
    private static int wrong = 0;

    private static void due(String what, long got, long want) {
        asked++;
        if (got != want) {
            wrong++;
            System.out.println(what + " answered " + got + ", due is " + want);
        }
    }

    private static void due(String what, boolean got, boolean want) {
        due(what, got ? 1 : 0, want ? 1 : 0);
    }

    public static void main(String[] args) {
        newObject();
        spanAndTear();
        lightKinds();
        lightRefused();
        lightEdges();
        marks();
        directions();
        directionsAllRound();
        hazes();
        noticesRefused();
        noticesCount();
        dayEdges();
        ofALight();
        atALight();
        sightings();
        bearings();
        fitting();
        fittingCut();
        canBe();
        canBeBySector();
        canBeSister();
        asking();
        askingOfEmptyRows();
        askingRefused();
        crossing();
        crossingEmpty();
        crossingEdges();
        waters();
        offers();
        apartness();
        checking();
        giving();
        givingTies();
        undoing();
        undoingEachAct();
        undoingFifty();
        images();
        abouts();
        System.out.println("promises: " + asked + " answers asked, " + wrong + " wrong");
        if (wrong != 0) System.exit(1);
    }

    // ---- helpers ----

    private static void row(LightList x, int... numbers) {
        x.tear();
        for (int t : numbers) x.span(t);
    }

    /** A white light of this kind at 0, 0 that reaches 100. */
    private static int lamp(LightList x, int place, int kind, int n, int... numbers) {
        row(x, numbers);
        return x.light(place, kind, n, 0, 0, 100, 1);
    }

    private static int flash(LightList x, int place, int... numbers) {
        return lamp(x, place, FLASH, 0, numbers);
    }

    /** A white sighting at 0, 0. */
    private static int sighting(LightList x, int error, int flags, int... numbers) {
        row(x, numbers);
        return x.sight(0, 0, 0, 1, error, flags);
    }

    private static int offered(LightList x, int... numbers) {
        row(x, numbers);
        return x.offer();
    }

    private static void spansAre(String what, LightList x, int light, int... spans) {
        due(what + ": how many", x.of(light, 1), spans.length);
        int period = 0;
        for (int i = 0; i < spans.length; i++) {
            due(what + ": span " + i, x.spanOf(light, i), spans[i]);
            period += spans[i];
        }
        due(what + ": behind the last", x.spanOf(light, spans.length), NONE);
        due(what + ": period", x.of(light, 0), spans.length == 0 ? 1 : period);
    }

    // ---- 1 ----

    private static void newObject() {
        LightList x = new LightList();
        for (int what = 0; what <= 10; what++) due("new: about " + what, x.about(what), 0);
        for (int place = 0; place < 100; place++) due("new: place " + place, x.holds(place), 0);
        due("new: given", x.given(0), NONE);
        due("new: undo 1", x.undo(1), NONE);
        for (int k = 0; k < 3; k++) {
            LightList y = new LightList();
            flash(y, 1, 2, 3);
            y.water(5, 6);
            due("new: an empty image", y.back(k), true);
            for (int what = 0; what <= 10; what++) due("new: about behind back " + what, y.about(what), 0);
            due("new: no light behind back", y.holds(1), 0);
        }
        due("NONE", LightList.NONE, -1);
    }

    // ---- 2, 3 ----

    private static void spanAndTear() {
        LightList x = new LightList();
        due("span 0", x.span(0), NONE);
        due("span -1", x.span(-1), NONE);
        due("span least", x.span(LEAST), NONE);
        due("span 601", x.span(601), NONE);
        due("span most", x.span(MOST), NONE);
        due("nothing was put", x.about(4), 0);
        due("span 1", x.span(1), 1);
        due("span 600", x.span(600), 2);
        due("tear two", x.tear(), 2);
        due("tear none", x.tear(), 0);
        for (int i = 1; i <= 24; i++) due("span nr " + i, x.span(50), i);
        due("span nr 25", x.span(50), NONE);
        due("there are 24", x.about(4), 24);
        due("no acts", x.about(8), 0);
        due("tear 24", x.tear(), 24);
        due("empty", x.about(4), 0);
        due("from the first again", x.span(7), 1);
    }

    // ---- 4 ----

    private static void lightKinds() {
        LightList x = new LightList();
        due("FIXED", lamp(x, 10, FIXED, 0), 0);
        spansAre("FIXED", x, 0);
        due("FLASH", lamp(x, 11, FLASH, 0, 3, 4, 5, 6), 1);
        spansAre("FLASH", x, 1, 3, 4, 5, 6);
        due("it takes the row", x.about(4), 0);
        due("GROUP", lamp(x, 12, GROUP, 3, 5, 6, 70), 2);
        spansAre("GROUP", x, 2, 5, 6, 5, 6, 5, 70);
        due("MORSE 5", lamp(x, 13, MORSE, 5, 10, 90), 3);
        spansAre("MORSE 5 = 1 01", x, 3, 10, 10, 30, 90);
        due("MORSE 6", lamp(x, 14, MORSE, 6, 10, 90), 4);
        spansAre("MORSE 6 = 1 10", x, 4, 30, 10, 10, 90);
        due("MORSE 64", lamp(x, 15, MORSE, 64, 1, 2), 5);
        spansAre("MORSE 64 = 1 000000", x, 5, 1, 1, 1, 1, 1, 1, 1, 1, 1, 1, 1, 2);
        due("MORSE 2", lamp(x, 16, MORSE, 2, 8, 9), 6);
        spansAre("MORSE 2 = 1 0", x, 6, 8, 9);
        due("SECTOR", lamp(x, 17, SECTOR, 0, 3, 4), 7);
        spansAre("SECTOR", x, 7, 3, 4);
        due("SISTER", lamp(x, 18, SISTER, 3, 3, 4), 8);
        spansAre("SISTER", x, 8, 3, 4);
        for (int light = 0; light <= 8; light++) due("its place", x.number(10 + light), light);
    }

    private static void lightRefused() {
        LightList x = new LightList();
        row(x, 10, 20);
        int[][] bad = {
            {-1, FLASH, 0, 0, 0, 5, 1}, {100, FLASH, 0, 0, 0, 5, 1}, {LEAST, FLASH, 0, 0, 0, 5, 1},
            {1, -1, 0, 0, 0, 5, 1}, {1, 6, 0, 0, 0, 5, 1}, {1, MOST, 0, 0, 0, 5, 1},
            {1, FIXED, 0, 0, 0, 5, 1}, {1, FLASH, 1, 0, 0, 5, 1}, {1, FLASH, -1, 0, 0, 5, 1},
            {1, GROUP, 2, 0, 0, 5, 1}, {1, MORSE, 1, 0, 0, 5, 1}, {1, MORSE, 128, 0, 0, 5, 1}, {1, MORSE, LEAST, 0, 0, 5, 1},
            {1, SECTOR, 1, 0, 0, 5, 1}, {1, SISTER, 0, 0, 0, 5, 1}, {1, SISTER, 4, 0, 0, 5, 1},
            {1, FLASH, 0, -1001, 0, 5, 1}, {1, FLASH, 0, 1001, 0, 5, 1}, {1, FLASH, 0, 0, -1001, 5, 1},
            {1, FLASH, 0, 0, 1001, 5, 1}, {1, FLASH, 0, 0, LEAST, 5, 1}, {1, FLASH, 0, 0, 0, 0, 1},
            {1, FLASH, 0, 0, 0, 2001, 1}, {1, FLASH, 0, 0, 0, -5, 1}, {1, FLASH, 0, 0, 0, 5, 0}, {1, FLASH, 0, 0, 0, 5, 4},
        };
        for (int[] b : bad) {
            due("light " + java.util.Arrays.toString(b), x.light(b[0], b[1], b[2], b[3], b[4], b[5], b[6]), NONE);
        }
        due("no light", x.about(0), 0);
        due("no act", x.about(8), 0);
        due("the row is as it was", x.about(4), 2);
        due("row of three for a FLASH", lamp(x, 1, FLASH, 0, 1, 2, 3), NONE);
        due("row of one for a SECTOR", lamp(x, 1, SECTOR, 0, 1), NONE);
        due("empty row for a FLASH", lamp(x, 1, FLASH, 0), NONE);
        due("empty row for a SISTER", lamp(x, 1, SISTER, 1), NONE);
        due("row of two for a GROUP", lamp(x, 1, GROUP, 2, 1, 2), NONE);
        due("row of four for a GROUP", lamp(x, 1, GROUP, 2, 1, 2, 3, 4), NONE);
        due("GROUP of 1", lamp(x, 1, GROUP, 1, 1, 2, 3), NONE);
        due("GROUP of 9", lamp(x, 1, GROUP, 9, 1, 2, 3), NONE);
        due("row of three for a MORSE", lamp(x, 1, MORSE, 2, 1, 2, 3), NONE);
        due("FIXED with n", lamp(x, 1, FIXED, 1), NONE);
        due("still none", x.about(0), 0);
    }

    private static void lightEdges() {
        LightList x = new LightList();
        due("PERIOD 1200", flash(x, 0, 600, 600), 0);
        due("PERIOD 1201", flash(x, 1, 600, 599, 1, 1), NONE);
        due("the row stays", x.about(4), 4);
        due("GROUP of 1200", lamp(x, 1, GROUP, 2, 100, 400, 600), 1);
        due("GROUP of 1201", lamp(x, 2, GROUP, 2, 100, 401, 600), NONE);
        due("MORSE of 1200", lamp(x, 2, MORSE, 3, 300, 300), 2);
        spansAre("a MORSE SPAN above 600", x, 2, 900, 300);
        due("MORSE of 1201", lamp(x, 3, MORSE, 3, 300, 301), NONE);
        due("MORSE of 1800", lamp(x, 3, MORSE, 3, 600, 1), NONE);
        due("a place that holds a light", flash(x, 0, 1, 1), NONE);
        x.mark(50, 1);
        due("a place that holds a mark", flash(x, 50, 1, 1), NONE);
        x.tear();
        due("corner", x.light(3, FIXED, 0, 1000, -1000, 2000, 3), 3);
        due("other corner", x.light(99, FIXED, 0, -1000, 1000, 1, 2), 4);
        for (int i = 5; i < 60; i++) due("light " + i, x.light(i, FIXED, 0, 0, 0, 1, 1), i == 50 ? NONE : i < 50 ? i : i - 1);
        due("the 60th", x.light(60, FIXED, 0, 0, 0, 1, 1), 59);
        due("the 61st", x.light(61, FIXED, 0, 0, 0, 1, 1), NONE);
        due("there are 60", x.about(0), 60);
    }

    // ---- 5, 6, 7, 8 ----

    private static void marks() {
        LightList x = new LightList();
        due("mark 0", x.mark(0, 0), true);
        due("mark 1000", x.mark(99, 1000), true);
        due("mark 1001", x.mark(1, 1001), false);
        due("mark -1", x.mark(1, -1), false);
        due("mark at -1", x.mark(-1, 1), false);
        due("mark at 100", x.mark(100, 1), false);
        due("mark twice", x.mark(0, 5), false);
        due("acts", x.about(8), 2);
        due("holds a mark", x.holds(0), 7);
        due("number 0", x.number(0), 0);
        due("number 1000", x.number(99), 1000);
        due("holds nothing", x.holds(1), 0);
        due("number of nothing", x.number(1), NONE);
        for (int place : new int[] {-1, 100, LEAST, MOST}) {
            due("holds " + place, x.holds(place), NONE);
            due("number " + place, x.number(place), NONE);
            due("clear " + place, x.clear(place), false);
        }
        flash(x, 7, 1, 1);
        due("mark at a light", x.mark(7, 1), false);
        due("clear a light", x.clear(7), false);
        due("clear nothing", x.clear(8), false);
        due("clear a mark", x.clear(0), true);
        due("nothing then", x.holds(0), 0);
        due("no number then", x.number(0), NONE);
        due("again", x.clear(0), false);
        for (int kind = 0; kind <= 5; kind++) {
            LightList y = new LightList();
            int[][] rows = {{}, {1, 2}, {1, 2, 3}, {1, 2}, {1, 2}, {1, 2}};
            int[] ns = {0, 0, 2, 2, 0, 1};
            y.mark(3, 900);
            due("kind " + kind, lamp(y, 4, kind, ns[kind], rows[kind]), 0);
            due("holds kind " + kind, y.holds(4), kind + 1);
            due("number of kind " + kind, y.number(4), 0);
        }
    }

    // ---- 9 ----

    private static void directions() {
        LightList x = new LightList();
        lamp(x, 5, SECTOR, 0, 10, 10);
        due("no directions: own colour", x.at(0, 0, 3, 3), 1);
        due("direct at nothing", x.direct(6, 1, 0, 1), -2);
        x.mark(7, 3);
        due("direct at a mark", x.direct(7, 1, 0, 1), -2);
        flash(x, 8, 1, 1);
        due("direct at a FLASH", x.direct(8, 1, 0, 1), -2);
        lamp(x, 9, SISTER, 1, 1, 1);
        due("direct at a SISTER", x.direct(9, 1, 0, 1), -2);
        due("direct beyond", x.direct(100, 1, 0, 1), NONE);
        due("direct below", x.direct(-1, 1, 0, 1), NONE);
        due("0, 0", x.direct(5, 0, 0, 1), NONE);
        due("1001", x.direct(5, 1001, 0, 1), NONE);
        due("-1001", x.direct(5, 0, -1001, 1), NONE);
        due("colour 0", x.direct(5, 1, 0, 0), NONE);
        due("colour 4", x.direct(5, 1, 0, 4), NONE);
        due("none yet", x.of(0, 7), 0);
        // One direction rules all round, from wherever it stands.
        due("first", x.direct(5, 0, 1000, 2), 1);
        due("at it", x.at(0, 0, 0, 5), 2);
        due("ahead of it: the last of all", x.at(0, 0, 5, 0), 2);
        due("at the light: its own", x.at(0, 0, 0, 0), 1);
        due("like it", x.direct(5, 0, 1, 3), NONE);
        due("the other way is not like it", x.direct(5, 0, -1, 3), 2);
        due("between", x.at(0, 0, -5, 0), 2);
        due("behind the second", x.at(0, 0, 1, -9), 3);
        due("from (1, 0) to the first: the last of all", x.at(0, 0, 9, 1), 3);
        due("just ahead of the second", x.at(0, 0, -1, -90), 2);
        due("west", x.direct(5, -7, 0, 1), 3);
        due("at west", x.at(0, 0, -5, 0), 1);
        due("just ahead of west", x.at(0, 0, -90, 1), 2);
        due("just behind west", x.at(0, 0, -90, -1), 1);
        due("4", x.direct(5, 999, 1000, 2), 4);
        due("5", x.direct(5, 1000, 999, 3), 5);
        due("between two near ones", x.at(0, 0, 1, 1), 3);
        due("6", x.direct(5, 1, 1, 1), 6);
        due("between two near ones again", x.at(0, 0, 1, 1), 1);
        due("like the sixth", x.direct(5, 17, 17, 2), NONE);
        due("7", x.direct(5, 1, -1, 2), 7);
        due("8", x.direct(5, -1, -1, 2), 8);
        due("9", x.direct(5, -1, 1, 2), NONE);
        due("there are 8", x.of(0, 7), 8);
        due("only a SECTOR has them", x.of(1, 7), 0);
    }

    private static void directionsAllRound() {
        int[][] ways = {{1, 0}, {1, 1}, {0, 1}, {-1, 1}, {-1, 0}, {-1, -1}, {0, -1}, {1, -1}};
        int[][] between = {{9, 4}, {4, 9}, {-4, 9}, {-9, 4}, {-9, -4}, {-4, -9}, {4, -9}, {9, -4}};
        int[] colours = {1, 2, 3, 1, 2, 3, 1, 2};
        // Told in any order they lie in their order round.
        for (int step : new int[] {1, 3, 5, 7}) {
            LightList x = new LightList();
            lamp(x, 0, SECTOR, 0, 10, 10);
            for (int k = 0; k < 8; k++) {
                int i = (k * step + 2) % 8;
                due("direction " + i, x.direct(0, ways[i][0], ways[i][1], colours[i]), k + 1);
            }
            for (int i = 0; i < 8; i++) {
                due("at direction " + i, x.at(0, 0, 3 * ways[i][0], 3 * ways[i][1]), colours[i]);
                due("behind direction " + i, x.at(0, 0, between[i][0], between[i][1]), colours[i]);
            }
        }
    }

    // ---- 10 ----

    private static void hazes() {
        LightList x = new LightList();
        lamp(x, 0, FIXED, 0);
        for (int h = 0; h <= 100; h++) {
            float f = h / 100f;
            int want = (int) (f * 100f);
            due("haze " + f, x.haze(Float.floatToIntBits(f)), want);
            due("H", x.about(7), want);
            due("reach", x.of(0, 4), 100 - want);
        }
        due("NaN", x.haze(0x7FC00000), 0);
        due("another NaN", x.haze(0x7F800001), 0);
        due("a NaN with a sign", x.haze(0xFFC00000), 0);
        due("infinity", x.haze(0x7F800000), 100);
        due("less infinity", x.haze(0xFF800000), 0);
        due("-0", x.haze(0x80000000), 0);
        due("the smallest", x.haze(1), 0);
        due("just above 1", x.haze(0x3F800001), 100);
        due("just below 1", x.haze(0x3F7FFFFF), 99);
        due("the greatest", x.haze(0x7F7FFFFF), 100);
        for (int bits = 0; bits < 0x3F900000 && bits >= 0; bits += 65521) {
            float f = Float.intBitsToFloat(bits);
            int want = f > 1 ? 100 : (int) (f * 100f);
            due("haze of bits " + bits, new LightList().haze(bits), want);
        }
        // The cut: 199 * 50 / 100 is 99.
        x.light(1, FIXED, 0, 0, 0, 199, 1);
        x.haze(Float.floatToIntBits(0.5f));
        due("reach is cut", x.of(1, 4), 99);
        due("in the reach", x.at(1, 0, 99, 0), 1);
        due("beyond it", x.at(1, 0, 99, 1), 0);
    }

    // ---- 11 ----

    private static void noticesRefused() {
        LightList x = new LightList();
        flash(x, 0, 1, 1);
        lamp(x, 1, FIXED, 0);
        row(x, 5, 6);
        int[][] bad = {
            {-1, OUT, 0, 0, 1, 2, 0}, {2, OUT, 0, 0, 1, 2, 0}, {0, -1, 0, 0, 1, 2, 0}, {0, 3, 0, 0, 1, 2, 0},
            {0, OUT, 1, 0, 1, 2, 0}, {0, OUT, 0, 1, 1, 2, 0}, {0, CHANGED, 1, 0, 1, 2, 0}, {0, CHANGED, 0, -1, 1, 2, 0},
            {0, MOVED, 1001, 0, 1, 2, 0}, {0, MOVED, 0, -1001, 1, 2, 0}, {0, OUT, 0, 0, -1, 2, 0},
            {0, OUT, 0, 0, 10001, -1, 0}, {0, OUT, 0, 0, 1, 1, 0}, {0, OUT, 0, 0, 1, 0, 0}, {0, OUT, 0, 0, 1, -2, 0},
            {0, OUT, 0, 0, 1, 10001, 0}, {0, OUT, 0, 0, 1, 2, -1}, {0, OUT, 0, 0, 1, 2, 10001}, {1, CHANGED, 0, 0, 1, 2, 0},
            {0, OUT, 0, 0, 10000, 10001, 0}, {0, OUT, 0, 0, LEAST, MOST, 0},
        };
        int acts = x.about(8);
        for (int[] b : bad) {
            due("notice " + java.util.Arrays.toString(b), x.notice(b[0], b[1], b[2], b[3], b[4], b[5], b[6]), NONE);
        }
        due("none", x.about(1), 0);
        due("no act", x.about(8), acts);
        due("the row is there", x.about(4), 2);
        due("OUT leaves the row", x.notice(0, OUT, 0, 0, 5000, NONE, 0), 0);
        due("MOVED leaves the row", x.notice(1, MOVED, 1000, -1000, 9999, 10000, 10000), 1);
        due("two still", x.about(4), 2);
        due("CHANGED takes it", x.notice(0, CHANGED, 0, 0, 10000, NONE, 10000), 2);
        due("none now", x.about(4), 0);
        due("CHANGED by nothing", x.notice(0, CHANGED, 0, 0, 1, NONE, 0), NONE);
        row(x, 1, 2, 3);
        due("CHANGED by three", x.notice(0, CHANGED, 0, 0, 1, NONE, 0), NONE);
        row(x, 600, 600, 1, 1);
        due("CHANGED by too long a PERIOD", x.notice(0, CHANGED, 0, 0, 1, NONE, 0), NONE);
        for (int i = 3; i < 100; i++) due("notice " + i, x.notice(0, OUT, 0, 0, 1, 2, 0), i);
        due("the 101st", x.notice(0, OUT, 0, 0, 1, 2, 0), NONE);
        due("there are 100", x.about(1), 100);
    }

    /** Every KIND but FIXED can be CHANGED; the KIND stays. */
    private static void noticesCount() {
        LightList x = new LightList();
        lamp(x, 0, GROUP, 2, 1, 2, 3);
        lamp(x, 1, SECTOR, 0, 1, 2);
        lamp(x, 2, SISTER, 2, 10, 20);
        lamp(x, 3, MORSE, 5, 1, 2);
        x.direct(1, 1, 0, 3);
        for (int light = 0; light < 4; light++) {
            int kind = x.of(light, 5);
            row(x, 7, 8, 9, 10);
            due("changed", x.notice(light, CHANGED, 0, 0, 0, NONE, 0), light);
            spansAre("changed light " + light, x, light, 7, 8, 9, 10);
            due("kind stays", x.of(light, 5), kind);
        }
        due("a SISTER's second lamp stays", x.at(2, 7, 0, 0), 8);
        due("with its own", x.at(2, 6, 0, 0), 9);
        x.notice(1, MOVED, 500, 500, 0, NONE, 0);
        due("moved x", x.of(1, 2), 500);
        due("a moved SECTOR's directions go with it", x.at(1, 0, 510, 500), 3);
        due("it is not where it was", x.at(1, 0, 0, 0), 0);

        // In the order of from: a later day counts, though it came first; of like days the later one.
        LightList y = new LightList();
        flash(y, 0, 1, 1);
        y.notice(0, MOVED, 10, 0, 5, NONE, 0);
        y.notice(0, MOVED, 20, 0, 3, NONE, 0);
        y.notice(0, MOVED, 30, 0, 3, 9, 4);
        row(y, 2, 2);
        y.notice(0, CHANGED, 0, 0, 4, NONE, 0);
        row(y, 3, 3);
        y.notice(0, CHANGED, 0, 0, 4, 6, 0);
        row(y, 4, 4);
        y.notice(0, CHANGED, 0, 0, 1, NONE, 0);
        int[][] table = { // day, known, x, period
            {0, 9, 0, 2}, {1, 0, 0, 8}, {2, 9, 0, 8}, {3, 3, 20, 8}, {3, 4, 30, 8}, {4, 4, 30, 6}, {5, 4, 10, 6}, {6, 0, 10, 4},
        };
        for (int[] t : table) {
            y.days(t[0], t[1]);
            due("x on " + t[0] + " as known on " + t[1], y.of(0, 2), t[2]);
            due("period on " + t[0] + " as known on " + t[1], y.of(0, 0), t[3]);
        }
    }

    // ---- 12, 13 ----

    private static void dayEdges() {
        LightList x = new LightList();
        due("days 10000", x.days(10000, 10000), true);
        due("day", x.about(5), 10000);
        due("known", x.about(6), 10000);
        for (int bad : new int[] {-1, 10001, LEAST, MOST}) {
            due("day " + bad, x.days(bad, 0), false);
            due("known " + bad, x.days(0, bad), false);
        }
        due("day stays", x.about(5), 10000);
        due("one act", x.about(8), 1);
        flash(x, 0, 1, 1);
        x.notice(0, OUT, 0, 0, 5, 8, 6);
        int[][] table = {{4, 9, 1}, {5, 5, 1}, {5, 6, 0}, {7, 6, 0}, {8, 6, 1}, {7, 0, 1}, {7, 10000, 0}};
        for (int[] t : table) {
            x.days(t[0], t[1]);
            due("lit on " + t[0] + " as known on " + t[1], x.lit(0), t[2]);
            due("seen on " + t[0], x.at(0, 0, 0, 0), t[2]);
        }
        x.notice(0, OUT, 0, 0, 5, NONE, 6);
        x.days(10000, 6);
        due("out for good", x.lit(0), 0);
        due("its PERIOD is told all the same", x.of(0, 0), 2);
        due("lit 1", x.lit(1), NONE);
        due("lit -1", x.lit(-1), NONE);
    }

    // ---- 14, 15 ----

    private static void ofALight() {
        LightList x = new LightList();
        row(x, 5, 6, 7);
        x.light(42, GROUP, 2, -3, 4, 77, 2);
        int[] want = {5 + 6 + 5 + 7, 4, -3, 4, 77, GROUP, 42, 0};
        for (int what = 0; what < want.length; what++) due("of " + what, x.of(0, what), want[what]);
        due("of 8", x.of(0, 8), NONE);
        due("of -1", x.of(0, -1), NONE);
        due("of no light", x.of(1, 0), NONE);
        due("of light -1", x.of(-1, 0), NONE);
        due("of light least", x.of(LEAST, 5), NONE);
        due("spanOf 3", x.spanOf(0, 3), 7);
        due("spanOf 4", x.spanOf(0, 4), NONE);
        due("spanOf -1", x.spanOf(0, -1), NONE);
        due("spanOf most", x.spanOf(0, MOST), NONE);
        due("spanOf no light", x.spanOf(1, 0), NONE);
        due("spanOf light -1", x.spanOf(-1, 0), NONE);
    }

    // ---- 16 ----

    private static void atALight() {
        LightList x = new LightList();
        row(x, 2, 3);
        x.light(0, FLASH, 0, 0, 0, 5, 3);
        int[] shown = {3, 3, 0, 0, 0, 3, 3, 0, 0, 0, 3};
        for (int t = 0; t < shown.length; t++) due("FLASH at " + t, x.at(0, t, 0, 0), shown[t]);
        due("just in reach", x.at(0, 0, 3, 4), 3);
        due("just beyond", x.at(0, 0, 4, 4), 0);
        due("t -1", x.at(0, -1, 0, 0), NONE);
        due("t least", x.at(0, LEAST, 0, 0), NONE);
        due("t most", x.at(0, MOST, 0, 0), MOST % 5 < 2 ? 3 : 0);
        for (int[] p : new int[][] {{2001, 0}, {-2001, 0}, {0, 2001}, {0, -2001}, {LEAST, 0}, {0, MOST}}) {
            due("place " + p[0] + ", " + p[1], x.at(0, 0, p[0], p[1]), NONE);
        }
        due("the farthest places", x.at(0, 0, -2000, 2000), 0);
        due("no light", x.at(1, 0, 0, 0), NONE);
        due("light -1", x.at(-1, 0, 0, 0), NONE);
        x.tear();
        x.light(1, FIXED, 0, 0, 0, 5, 2);
        due("FIXED", x.at(1, 12345, 0, 0), 2);
        row(x, 2, 3);
        x.light(2, SISTER, 3, 0, 0, 5, 2);
        due("SISTER light", x.at(2, 1, 0, 0), 2 + 12);
        due("SISTER dark", x.at(2, 2, 0, 0), 12);
        due("SISTER not seen", x.at(2, 2, 6, 0), 0);
        x.notice(2, OUT, 0, 0, 0, NONE, 0);
        due("SISTER out", x.at(2, 2, 0, 0), 0);
        row(x, 1, 1);
        x.light(3, FLASH, 0, 1000, 1000, 2000, 1);
        due("far off", x.at(3, 0, -1000, 1000), 1);
        due("farther", x.at(3, 0, -1000, 999), 0);
    }

    // ---- 17 ----

    private static void sightings() {
        LightList x = new LightList();
        row(x, 1, 2, 3);
        int[][] bad = {
            {-1001, 0, 0, 1, 0, 0}, {1001, 0, 0, 1, 0, 0}, {0, -1001, 0, 1, 0, 0}, {0, 1001, 0, 1, 0, 0},
            {0, 0, -1, 1, 0, 0}, {0, 0, 21, 1, 0, 0}, {0, 0, 0, 0, 0, 0}, {0, 0, 0, 16, 0, 0}, {0, 0, 0, 1, -1, 0},
            {0, 0, 0, 1, 51, 0}, {0, 0, 0, 1, 0, -1}, {0, 0, 0, 1, 0, 8}, {LEAST, MOST, 0, 1, 0, 0},
        };
        for (int[] b : bad) {
            due("sight " + java.util.Arrays.toString(b), x.sight(b[0], b[1], b[2], b[3], b[4], b[5]), NONE);
        }
        due("none", x.about(2), 0);
        due("no act", x.about(8), 0);
        due("the row is there", x.about(4), 3);
        due("edges", x.sight(1000, -1000, 20, 15, 50, 7), 0);
        due("it takes the row", x.about(4), 0);
        due("seen alone", x.sight(-1000, 1000, 0, 1, 0, 0), 1);
        due("seen alone, light", x.sight(0, 0, 0, 1, 0, LIGHT_FIRST), 2);
        due("nothing counted, first CUT", x.sight(0, 0, 0, 1, 0, CUT_FIRST), NONE);
        due("nothing counted, last CUT", x.sight(0, 0, 0, 1, 0, CUT_LAST), NONE);
        for (int i = 3; i < 100; i++) due("sight " + i, x.sight(0, 0, 0, 1, 0, 0), i);
        due("the 101st", x.sight(0, 0, 0, 1, 0, 0), NONE);
        due("there are 100", x.about(2), 100);
    }

    // ---- 18 ----

    private static void bearings() {
        LightList x = new LightList();
        due("no sighting", x.bear(0, 1, 1), false);
        sighting(x, 0, 0);
        due("bear", x.bear(0, 1, 1), true);
        due("again", x.bear(0, -1000, 1000), true);
        for (int[] b : new int[][] {{0, 0}, {1001, 0}, {-1001, 0}, {0, 1001}, {0, -1001}, {LEAST, MOST}}) {
            due("bear " + b[0] + ", " + b[1], x.bear(0, b[0], b[1]), false);
        }
        due("sighting 1", x.bear(1, 1, 1), false);
        due("sighting -1", x.bear(-1, 1, 1), false);
        due("acts", x.about(8), 3);
    }

    // ---- 19 ----

    private static void fitting() {
        LightList x = new LightList();
        flash(x, 0, 10, 20, 30, 40);
        lamp(x, 1, FIXED, 0);
        due("empty row", x.fits(sighting(x, 0, 0), 0), 1);
        due("empty row, FIXED", x.fits(0, 1), 1);
        due("10 light", x.fits(sighting(x, 0, LIGHT_FIRST, 10), 0), 1);
        due("10 dark", x.fits(sighting(x, 0, 0, 10), 0), 0);
        due("20 dark", x.fits(sighting(x, 0, 0, 20), 0), 1);
        due("30 40 10", x.fits(sighting(x, 0, LIGHT_FIRST, 30, 40, 10), 0), 1);
        due("30 20", x.fits(sighting(x, 0, LIGHT_FIRST, 30, 20), 0), 0);
        due("round twice", x.fits(sighting(x, 0, 0, 40, 10, 20, 30, 40, 10, 20, 30, 40), 0), 1);
        due("round twice, wrong at the end", x.fits(sighting(x, 0, 0, 40, 10, 20, 30, 40, 10, 20, 30, 41), 0), 0);
        due("error 5: 15", x.fits(sighting(x, 5, LIGHT_FIRST, 15), 0), 1);
        due("error 5: 16", x.fits(sighting(x, 5, LIGHT_FIRST, 16), 0), 0);
        due("error 5: 5", x.fits(sighting(x, 5, LIGHT_FIRST, 5), 0), 1);
        due("error 5: 4", x.fits(sighting(x, 5, LIGHT_FIRST, 4), 0), 0);
        due("no sighting", x.fits(x.about(2), 0), NONE);
        due("sighting -1", x.fits(-1, 0), NONE);
        due("no light", x.fits(0, 2), NONE);
        due("light -1", x.fits(0, -1), NONE);
        x.notice(0, OUT, 0, 0, 0, NONE, 0);
        due("it fits one that is OUT", x.fits(2 - 1, 0), 1);
        row(x, 50, 60);
        x.notice(0, CHANGED, 0, 0, 0, NONE, 0);
        due("not as it was", x.fits(1, 0), 0);
        due("as it is", x.fits(sighting(x, 0, LIGHT_FIRST, 50, 60), 0), 1);
    }

    private static void fittingCut() {
        LightList x = new LightList();
        flash(x, 0, 10, 20, 30, 40);
        lamp(x, 1, FIXED, 0);
        due("first CUT, short", x.fits(sighting(x, 0, LIGHT_FIRST | CUT_FIRST, 3, 20), 0), 1);
        due("first CUT, whole", x.fits(sighting(x, 0, LIGHT_FIRST | CUT_FIRST, 10, 20), 0), 1);
        due("first CUT, too long", x.fits(sighting(x, 0, LIGHT_FIRST | CUT_FIRST, 11, 20), 0), 0);
        due("first CUT, too long within ERROR", x.fits(sighting(x, 1, LIGHT_FIRST | CUT_FIRST, 11, 20), 0), 1);
        due("first CUT, last not", x.fits(sighting(x, 0, LIGHT_FIRST | CUT_FIRST, 3, 19), 0), 0);
        due("last CUT", x.fits(sighting(x, 0, LIGHT_FIRST | CUT_LAST, 10, 1), 0), 1);
        due("last CUT, first not", x.fits(sighting(x, 0, LIGHT_FIRST | CUT_LAST, 9, 1), 0), 0);
        due("one between is never CUT", x.fits(sighting(x, 0, LIGHT_FIRST | CUT_FIRST | CUT_LAST, 5, 19, 5), 0), 0);
        due("both CUT", x.fits(sighting(x, 0, LIGHT_FIRST | CUT_FIRST | CUT_LAST, 5, 20, 5), 0), 1);
        due("one, CUT at its first end", x.fits(sighting(x, 0, LIGHT_FIRST | CUT_FIRST, 25), 0), 1);
        due("one, CUT at its last end", x.fits(sighting(x, 0, LIGHT_FIRST | CUT_LAST, 30), 0), 1);
        due("one, too long", x.fits(sighting(x, 0, LIGHT_FIRST | CUT_LAST, 31), 0), 0);
        due("FIXED: light, CUT at both ends", x.fits(sighting(x, 0, LIGHT_FIRST | CUT_FIRST | CUT_LAST, 600), 1), 1);
        due("FIXED: dark", x.fits(sighting(x, 0, CUT_FIRST | CUT_LAST, 600), 1), 0);
        due("FIXED: CUT at one end", x.fits(sighting(x, 0, LIGHT_FIRST | CUT_FIRST, 600), 1), 0);
        due("FIXED: CUT at the other", x.fits(sighting(x, 0, LIGHT_FIRST | CUT_LAST, 600), 1), 0);
        due("FIXED: two numbers", x.fits(sighting(x, 50, LIGHT_FIRST | CUT_FIRST | CUT_LAST, 1, 1), 1), 0);
    }

    // ---- 20, 21, 22 ----

    private static void canBe() {
        LightList x = new LightList();
        row(x, 10, 20);
        x.light(0, FLASH, 0, 0, 0, 100, 1);
        row(x, 11, 20);
        x.light(1, FLASH, 0, 50, 0, 10, 1);
        row(x, 10, 20);
        x.light(2, FLASH, 0, 0, 0, 100, 2);
        row(x, 10, 20);
        x.light(3, FLASH, 0, 1000, 0, 100, 1);
        row(x, 10, 20);
        int s = x.sight(30, 0, 10, 1, 1, LIGHT_FIRST);
        due("which", x.which(s), 2);
        due("one 0", x.one(s, 0), 0);
        due("one 1", x.one(s, 1), 1);
        due("one 2", x.one(s, 2), NONE);
        due("one -1", x.one(s, -1), NONE);
        due("not sure", x.sure(s), NONE);
        row(x, 10, 20);
        int farther = x.sight(29, 0, 10, 1, 1, LIGHT_FIRST);
        due("out of the second one's reach by one", x.which(farther), 1);
        due("sure", x.sure(farther), 0);
        row(x, 10, 20);
        int red = x.sight(30, 0, 10, 2, 1, LIGHT_FIRST);
        due("red", x.sure(red), 2);
        x.notice(0, OUT, 0, 0, 0, NONE, 0);
        due("one is OUT", x.which(s), 1);
        due("the other is it", x.sure(s), 1);
        x.notice(1, MOVED, 0, 500, 0, NONE, 0);
        due("the other moved", x.which(s), 0);
        due("sure of none", x.sure(s), NONE);
        due("one of none", x.one(s, 0), NONE);
        x.undo(1);
        x.haze(Float.floatToIntBits(0.5f));
        due("haze", x.which(s), 0);
        for (int none : new int[] {-1, 3, LEAST, MOST}) {
            due("which " + none, x.which(none), NONE);
            due("one of " + none, x.one(none, 0), NONE);
            due("sure " + none, x.sure(none), NONE);
        }
    }

    private static void canBeBySector() {
        LightList x = new LightList();
        row(x, 10, 20);
        x.light(0, SECTOR, 0, 0, 0, 10, 1);
        x.direct(0, 1, 0, 2);
        x.direct(0, 0, 1, 3);
        x.sight(5, 5, 0, 2, 0, 0);
        x.sight(5, 5, 0, 3, 0, 0);
        x.sight(5, 5, 4, 3, 0, 0);
        x.sight(5, 5, 5, 3, 0, 0);
        x.sight(5, 5, 5, 1, 0, 0);
        x.sight(15, 15, 5, 2, 0, 0);
        x.sight(10, 10, 5, 2, 0, 0);
        x.sight(0, 0, 5, 6, 0, 0);
        due("red in its sector", x.which(0), 1);
        due("not green there", x.which(1), 0);
        due("not green in a wider square", x.which(2), 0);
        due("green at its edge", x.which(3), 1);
        due("its own colour at the light alone", x.which(4), 1);
        due("too far", x.which(5), 0);
        due("the corner is near enough", x.which(6), 1);
        due("a SISTER's colour", x.which(7), 0);
        LightList y = new LightList();
        row(y, 10, 20);
        y.light(0, SECTOR, 0, 0, 0, 10, 1);
        y.direct(0, 1, 0, 2);
        y.sight(-5, -5, 0, 2, 0, 0);
        due("one direction rules all round", y.sure(0), 0);
    }

    private static void canBeSister() {
        LightList x = new LightList();
        lamp(x, 0, SISTER, 3, 5, 5);
        x.sight(0, 0, 0, 13, 0, 0);
        x.sight(0, 0, 0, 1, 0, 0);
        x.sight(0, 0, 0, 12, 0, 0);
        due("white and green above", x.sure(0), 0);
        due("white alone", x.which(1), 0);
        due("green above alone", x.which(2), 0);
    }

    // ---- 23 ----

    private static void asking() {
        LightList x = new LightList();
        flash(x, 0, 10, 20);
        due("one light", x.ask(sighting(x, 0, LIGHT_FIRST, 10)), 0);
        flash(x, 1, 10, 25);
        // Behind 10 light both are dark, the first one for 20, so in tenth 21 they differ.
        due("they part in the dark", x.ask(0), 21);
        flash(x, 2, 10, 20, 10, 30);
        // Lights 0 and 2 go alike for 20 dark, 10 light, 20 dark when light 2 stands behind its first flash.
        due("they part later", x.ask(0), 51);
        flash(x, 3, 10, 20, 10, 20);
        due("some never part", x.ask(0), -2);
        x.notice(3, OUT, 0, 0, 0, NONE, 0);
        due("one that is OUT is not asked", x.ask(0), 51);
        due("dark first", x.ask(sighting(x, 0, 0, 25)), 0);
        // Behind 20 dark: light 0 goes 10 20 10 20.., light 2 goes 10 30: they part in tenth 31.
        due("behind the dark", x.ask(sighting(x, 0, 0, 20)), 31);
        due("no sighting", x.ask(3), NONE);
        due("sighting -1", x.ask(-1), NONE);

        LightList y = new LightList();
        flash(y, 0, 1, 2);
        flash(y, 1, 1, 2, 1, 2, 1, 2, 1, 3);
        // From the second dark one on light 1 shows 2 1 2 1 3; from the first 2 1 2 1 2 1 3.
        due("the latest of several starts", y.ask(sighting(y, 0, LIGHT_FIRST, 1)), 12);
        due("four counted leave two", y.ask(sighting(y, 0, LIGHT_FIRST, 1, 2, 1, 2)), 1 + 2 + 1 + 2 + 1);
    }

    private static void askingOfEmptyRows() {
        LightList x = new LightList();
        flash(x, 0, 5, 7);
        flash(x, 1, 5, 9);
        x.tear();
        int s = x.sight(0, 0, 0, 1, 0, 0);
        // Light against dark parts in 1; both light: 5, then 7 against 9: 5 + 7 + 1; both dark: 8.
        due("any span", x.ask(s), 13);
        flash(x, 2, 5, 7);
        due("the same rhythm twice", x.ask(s), -2);
    }

    private static void askingRefused() {
        LightList x = new LightList();
        flash(x, 0, 10, 20);
        int cut = sighting(x, 0, LIGHT_FIRST | CUT_LAST, 10);
        int firstCut = sighting(x, 0, LIGHT_FIRST | CUT_FIRST, 10);
        due("last CUT, one light", x.ask(cut), 0);
        flash(x, 1, 10, 30);
        due("last CUT", x.ask(cut), -3);
        due("first CUT", x.ask(firstCut), 21);
        x.tear();
        x.light(2, FIXED, 0, 0, 0, 10, 1);
        int alone = sighting(x, 0, 0);
        due("a FIXED one", x.ask(alone), -3);
        due("it is not what was counted", x.ask(firstCut), 21);
        for (int i = 3; i < 9; i++) flash(x, i, 10, 40 + i);
        due("eight", x.which(firstCut), 8);
        due("eight parted", x.ask(firstCut), 48);
        flash(x, 9, 10, 100);
        due("nine", x.which(firstCut), 9);
        due("more than eight", x.ask(firstCut), -3);

        LightList y = new LightList();
        for (int i = 0; i < 9; i++) flash(y, i, 10, 20);
        LightList z = new LightList();
        lamp(z, 0, FIXED, 0);
        flash(z, 1, 10, 20);
        due("the FIXED one first", z.ask(sighting(z, 0, 0)), -3);
        due("more than eight comes before never", y.ask(sighting(y, 0, LIGHT_FIRST, 10)), -3);
    }

    // ---- 24, 25 ----

    private static void crossing() {
        LightList x = new LightList();
        due("no sightings, 20", x.cross(20), 10000);
        due("no sightings, 200", x.cross(200), 100);
        due("no sightings, 22: 91 across", x.cross(22), 91 * 91);
        due("no sightings, 198: 11 across", x.cross(198), 121);
        due("square 0", x.square(200, 0), 0);
        due("square 9", x.square(200, 9), 9);
        due("square 10", x.square(200, 10), 1000);
        due("square 99", x.square(200, 99), 9009);
        due("square 100", x.square(200, 100), NONE);
        due("square -1", x.square(200, -1), NONE);
        for (int g : new int[] {0, 18, 19, 21, 199, 201, 202, -20, LEAST, MOST}) {
            due("cross " + g, x.cross(g), NONE);
            due("square of " + g, x.square(g, 0), NONE);
        }
        // A light at 0, 0 and a ship near -100, 0 that has it due east.
        row(x, 10, 20);
        x.light(0, FLASH, 0, 0, 0, 500, 1);
        row(x, 10, 20);
        x.sight(-100, 0, 0, 1, 0, LIGHT_FIRST);
        due("no bearing", x.cross(20), 10000);
        x.bear(0, 3, 0);
        // Middles are -990 + 20 i; within 20 of -100: -110 and -90 (i 44, 45); of 0: -10 and 10 (j 49, 50).
        // v = (110, +-10): 16 * 10 * 3 = 480 is above 330, so none is left.
        due("too wide for the bearing", x.cross(20), -2);
        // By 200 the middles are -900 .. 900: -300, -100, 100 are within 200 of -100; of 0: -100, 100.
        due("coarser: none either", x.cross(200), -2);
        due("no square", x.square(200, 0), NONE);
        // By 40: -980 + 40 i; within 40 of -100: -140, -100, -60 (i 21 .. 23); of 0: -20, 20 (j 24, 25).
        x.bear(0, 5, -1);
        // v = (140, -20): cross 5 * -20 + 140 = 40, dot 720, 640 is not above; (100, -20): 0; (60, -20): 40, 320.
        due("two of a row", x.cross(40), 2);
        due("the first", x.square(40, 0), 21 + 1000 * 25);
        due("the second", x.square(40, 1), 22 + 1000 * 25);
        due("the third", x.square(40, 2), NONE);
        x.bear(0, -5, 1);
        due("the other way", x.cross(40), -2);
    }

    private static void crossingEmpty() {
        LightList x = new LightList();
        row(x, 10, 20);
        x.light(0, FLASH, 0, 0, 0, 500, 1);
        row(x, 10, 30);
        x.light(1, FLASH, 0, -100, 100, 500, 1);
        x.tear();
        x.sight(-100, 20, 0, 1, 0, 0);
        x.bear(0, 5, -1);
        due("not sure: it counts for nothing", x.cross(40), 2500);
        row(x, 20);
        x.sight(-100, 20, 0, 1, 0, 0);
        row(x, 30);
        x.sight(-100, 20, 20, 1, 0, 0);
        x.bear(1, 5, -1);
        due("by the first", x.cross(40), 2);
        x.bear(2, 0, 1);
        // Of -140, 20 and -100, 20 the second alone has the light at -100, 100 due north.
        due("by both", x.cross(40), 1);
        due("the one", x.square(40, 0), 22 + 1000 * 25);
        x.bear(2, 0, -1);
        due("none is left with sighting 2", x.cross(40), -4);
        x.bear(1, -5, 1);
        due("none is left with sighting 1 already", x.cross(40), -3);
        x.notice(1, OUT, 0, 0, 0, NONE, 0);
        due("sighting 0 is sure now", x.sure(0), 0);
        due("it leaves two, sighting 1 none", x.cross(40), -3);
        x.bear(0, 1, 1);
        due("it leaves none", x.cross(40), -2);
        // v is 0 where the middle is the light.
        LightList y = new LightList();
        row(y, 10, 20);
        y.light(0, FLASH, 0, -100, 20, 500, 1);
        y.tear();
        y.sight(-100, 20, 0, 1, 0, 0);
        y.bear(0, 1, 0);
        due("the light's own square is none", y.cross(40), 1);
        due("the one to the west", y.square(40, 0), 21 + 1000 * 25);
    }

    /** One ship at -10, -10 that has the light in the east, then one that has it in the north. */
    private static void crossingEdges() {
        for (int turned = 0; turned < 2; turned++) {
            for (int far : new int[] {150, 149}) {
                LightList x = new LightList();
                x.light(0, FIXED, 0, turned == 0 ? far : 0, turned == 0 ? 0 : far, 500, 1);
                x.sight(-10, -10, 0, 1, 0, 0);
                x.bear(0, turned == 0 ? 1 : 0, turned == 0 ? 0 : 1);
                // Of the middles -30, -10, 10 each way: 160 along and 10 across is just within the bearing.
                due("within 20 of the square, by 16 times", x.cross(20), far == 150 ? 4 : 2);
                due("the first", x.square(20, 0), turned == 0 || far == 150 ? 48 + turned + 1000 * (49 - turned) : 49 + 1000 * 48);
            }
        }
        LightList x = new LightList();
        x.light(0, FIXED, 0, 0, 0, 500, 1);
        x.sight(-80, 0, 20, 1, 0, 0);
        x.bear(0, 8, -1);
        // By 40 the middles are -980 + 40 i; of all near ones -140, 20 alone has the light so: 16 * 20 against 1140.
        due("60 from -80, as r and g are", x.cross(40), 1);
        due("it", x.square(40, 0), 21 + 1000 * 25);
        x.undo(2);
        x.sight(-79, 0, 20, 1, 0, 0);
        x.bear(0, 8, -1);
        due("61 from -79", x.cross(40), -2);
    }

    // ---- 26, 27 ----

    private static void waters() {
        LightList x = new LightList();
        due("water", x.water(1000, -1000), true);
        for (int[] p : new int[][] {{1001, 0}, {-1001, 0}, {0, 1001}, {0, -1001}, {LEAST, MOST}}) {
            due("water " + p[0] + ", " + p[1], x.water(p[0], p[1]), false);
        }
        due("x", x.about(9), 1000);
        due("y", x.about(10), -1000);
        due("one act", x.about(8), 1);
    }

    private static void offers() {
        LightList x = new LightList();
        due("empty", x.offer(), NONE);
        due("three", offered(x, 1, 2, 3), NONE);
        due("the row stays", x.about(4), 3);
        due("too long", offered(x, 600, 600, 1, 1), NONE);
        due("no act", x.about(8), 0);
        due("1200", offered(x, 600, 600), 0);
        due("it takes the row", x.about(4), 0);
        for (int i = 1; i < 12; i++) due("offer " + i, offered(x, 1, 2), i);
        due("the 13th", offered(x, 1, 2), NONE);
        due("there are 12", x.about(3), 12);
    }

    // ---- 28 ----

    private static void apartness() {
        LightList x = new LightList();
        flash(x, 0, 10, 20);
        flash(x, 1, 10, 20, 10, 20);
        flash(x, 2, 10, 20, 10, 22);
        flash(x, 3, 10, 20, 12, 20);
        lamp(x, 4, FIXED, 0);
        lamp(x, 5, FIXED, 0);
        flash(x, 6, 20, 10);
        flash(x, 7, 10, 22, 10, 20);
        due("twice as long a row, the same", x.apart(0, 1, 0), 0);
        due("by 0", x.apart(0, 2, 0), 1);
        due("by 1", x.apart(0, 2, 1), 1);
        due("by 2", x.apart(0, 2, 2), 0);
        due("the other way round", x.apart(2, 0, 2), 0);
        due("2 and 3 by 1", x.apart(2, 3, 1), 1);
        due("2 and 3 by 2", x.apart(2, 3, 2), 0);
        due("FIXED and FLASH", x.apart(0, 4, 50), 1);
        due("FLASH and FIXED", x.apart(4, 0, 50), 1);
        due("FIXED and FIXED", x.apart(4, 5, 0), 0);
        due("light and dark are not exchanged", x.apart(0, 6, 9), 1);
        due("but for ERROR", x.apart(0, 6, 10), 0);
        due("from another span on", x.apart(2, 7, 0), 0);
        due("the same", x.apart(1, 1, 0), NONE);
        due("none", x.apart(0, 8, 0), NONE);
        due("none first", x.apart(8, 0, 0), NONE);
        due("-1", x.apart(-1, 0, 0), NONE);
        due("ERROR -1", x.apart(0, 1, -1), NONE);
        due("ERROR 51", x.apart(0, 1, 51), NONE);
        x.notice(0, OUT, 0, 0, 0, NONE, 0);
        due("OUT does not count", x.apart(0, 1, 0), 0);
        row(x, 90, 90);
        x.notice(0, CHANGED, 0, 0, 0, NONE, 0);
        due("as it is now", x.apart(0, 1, 50), 1);

        // Two PERIODS of the one may fit where one PERIOD of the other does not go round alike.
        LightList y = new LightList();
        flash(y, 0, 1, 1);
        flash(y, 1, 1, 1, 1, 1, 1, 9);
        due("two periods of the short one fit in the long one", y.apart(0, 1, 0), 0);
        due("from the other side too", y.apart(1, 0, 0), 0);
        flash(y, 2, 1, 1, 1, 9);
        due("one period is not enough", y.apart(0, 2, 0), 1);
        flash(y, 3, 10, 20);
        flash(y, 4, 11, 20, 10, 20);
        due("the first span counts", y.apart(3, 4, 0), 1);
    }

    // ---- 29 ----

    private static void checking() {
        LightList x = new LightList();
        due("no lights", x.check(0), -2);
        flash(x, 0, 10, 20);
        flash(x, 1, 10, 30);
        flash(x, 2, 10, 31);
        flash(x, 3, 10, 21);
        due("all are", x.check(0), -2);
        due("0 and 3 come before 1 and 2", x.check(1), 64 * 0 + 3);
        x.notice(3, OUT, 0, 0, 0, NONE, 0);
        due("1 and 2", x.check(1), 64 * 1 + 2);
        due("0 and 1 by 10", x.check(10), 1);
        x.water(101, 0);
        due("nothing is seen there", x.check(50), -2);
        x.water(100, 0);
        due("all are seen there", x.check(1), 66);
        due("ERROR -1", x.check(-1), NONE);
        due("ERROR 51", x.check(51), NONE);
        due("ERROR 50", x.check(50), 1);
    }

    // ---- 30, 31 ----

    private static void giving() {
        LightList x = new LightList();
        due("no offers", x.give(1, 0), -2);
        due("nothing given", x.given(0), NONE);
        offered(x, 50, 50);
        offered(x, 10, 20);
        offered(x, 10, 21);
        offered(x, 30, 30);
        due("one", x.give(1, 0), 30);
        due("it", x.given(0), 1);
        due("no second", x.given(1), NONE);
        due("two by 0", x.give(2, 0), 61);
        due("first", x.given(0), 1);
        due("second", x.given(1), 2);
        due("two by 1", x.give(2, 1), 90);
        due("first by 1", x.given(0), 1);
        due("second by 1", x.given(1), 3);
        due("three by 1", x.give(3, 1), 190);
        due("in order 0", x.given(0), 0);
        due("in order 1", x.given(1), 1);
        due("in order 2", x.given(2), 3);
        due("four by 1", x.give(4, 1), -2);
        due("the latest that was not below 0", x.given(2), 3);
        due("n 0", x.give(0, 0), NONE);
        due("n 7", x.give(7, 0), NONE);
        due("ERROR -1", x.give(1, -1), NONE);
        due("ERROR 51", x.give(1, 51), NONE);
        due("still", x.given(0), 0);
        due("given -1", x.given(-1), NONE);
        due("given 3", x.given(3), NONE);
        flash(x, 0, 10, 20);
        due("a light stands in its way", x.give(1, 0), 31);
        x.water(500, 500);
        due("not seen from there", x.give(1, 0), 30);
        x.water(0, 0);
        x.notice(0, OUT, 0, 0, 0, NONE, 0);
        due("not when it is OUT", x.give(1, 0), 30);
        x.tear();
        x.light(1, FIXED, 0, 0, 0, 100, 1);
        due("a FIXED light is APART from all", x.give(1, 50), 30);
        row(x, 50, 50);
        x.light(2, FLASH, 0, 0, 0, 100, 1);
        due("the first offer is in a light's way", x.give(3, 1), -2);
        x.undo(1);
        due("acts are not made by giving", x.about(8), 9);
    }

    private static void givingTies() {
        LightList x = new LightList();
        offered(x, 10, 90);
        offered(x, 20, 50);
        offered(x, 30, 30);
        offered(x, 40, 10);
        offered(x, 5, 15);
        offered(x, 5, 15);
        // 100, 70, 60, 50, 20, 20; 4 and 5 are the same.
        due("the first of like ones", x.give(1, 0), 20);
        due("4", x.given(0), 4);
        due("two", x.give(2, 0), 70);
        due("3", x.given(0), 3);
        due("and 4", x.given(1), 4);
        due("five", x.give(5, 0), 300);
        int[] want = {0, 1, 2, 3, 4};
        for (int k = 0; k < 5; k++) due("five, " + k, x.given(k), want[k]);
        due("six", x.give(6, 0), -2);
        LightList y = new LightList();
        offered(y, 100, 100);
        offered(y, 150, 150);
        offered(y, 10, 240);
        offered(y, 240, 10);
        // Sums of two: 500 by 0 and 1, 450 by 0 and 2 or 0 and 3, 500 by 2 and 3.
        due("a tie", y.give(2, 0), 450);
        due("the first number alike", y.given(0), 0);
        due("the second is less", y.given(1), 2);
        LightList z = new LightList();
        offered(z, 300, 100);
        offered(z, 100, 100);
        offered(z, 90, 110);
        offered(z, 400, 1);
        offered(z, 1, 399);
        offered(z, 1, 1);
        due("a tie in the first number: 1 and 5, 2 and 5", z.give(2, 9), 202);
        due("1 and 5", z.given(0), 1);
        due("not 2 and 5", z.given(1), 5);
        LightList w = new LightList();
        for (int i = 0; i < 12; i++) offered(w, 10 + i, 100 - i);
        due("six of twelve alike in length", w.give(6, 0), 660);
        for (int k = 0; k < 6; k++) due("the first six", w.given(k), k);
        due("six by 1", w.give(6, 1), 660);
        for (int k = 0; k < 6; k++) due("every other one", w.given(k), 2 * k);
        due("six by 2", w.give(6, 2), -2);
        due("four by 2", w.give(4, 2), 440);
        for (int k = 0; k < 4; k++) due("every third one", w.given(k), 3 * k);
    }

    // ---- 32 ----

    private static void undoing() {
        LightList x = new LightList();
        due("undo 0", x.undo(0), 0);
        due("undo 1", x.undo(1), NONE);
        due("undo -1", x.undo(-1), NONE);
        due("undo 51", x.undo(51), NONE);
        due("undo least", x.undo(LEAST), NONE);
        x.mark(0, 1);
        x.mark(1, 2);
        x.mark(2, 3);
        x.mark(2, 4);
        x.span(9);
        due("undo 4 of 3", x.undo(4), NONE);
        due("nothing was done", x.about(8), 3);
        due("undo 2", x.undo(2), 2);
        due("one left", x.about(8), 1);
        due("first mark", x.number(0), 1);
        due("second", x.holds(1), 0);
        due("third", x.holds(2), 0);
        due("the row stays", x.about(4), 1);
        due("undo the last", x.undo(1), 1);
        due("undo none", x.undo(1), NONE);
    }

    private static void undoingEachAct() {
        LightList x = new LightList();
        row(x, 5, 5);
        x.light(0, SECTOR, 0, 0, 0, 100, 1);
        due("the row was taken", x.about(4), 0);
        x.undo(1);
        due("light", x.about(0), 0);
        due("its place", x.holds(0), 0);
        due("the row does not come back", x.about(4), 0);
        row(x, 5, 5);
        x.light(0, SECTOR, 0, 0, 0, 100, 1);
        x.mark(1, 77);
        x.clear(1);
        x.undo(1);
        due("clear", x.number(1), 77);
        x.undo(1);
        due("mark", x.holds(1), 0);
        x.direct(0, 1, 0, 2);
        x.direct(0, 0, 1, 3);
        x.undo(1);
        due("direct", x.of(0, 7), 1);
        due("colour", x.at(0, 0, 0, 5), 2);
        due("another one", x.direct(0, 0, 1, 1), 2);
        due("another colour", x.at(0, 0, 0, 5), 1);
        x.haze(Float.floatToIntBits(0.25f));
        x.haze(Float.floatToIntBits(0.75f));
        x.undo(1);
        due("haze", x.about(7), 25);
        due("reach", x.of(0, 4), 75);
        x.notice(0, OUT, 0, 0, 0, NONE, 0);
        due("out", x.lit(0), 0);
        x.undo(1);
        due("notice", x.lit(0), 1);
        due("none", x.about(1), 0);
        x.days(3, 4);
        x.days(5, 6);
        x.undo(1);
        due("day", x.about(5), 3);
        due("known", x.about(6), 4);
        sighting(x, 0, 0);
        sighting(x, 0, 0);
        x.undo(1);
        due("sight", x.about(2), 1);
        x.bear(0, 1, 0);
        int before = x.cross(200);
        x.bear(0, 0, -1);
        x.undo(1);
        due("bear in place of one before", x.cross(200), before);
        x.undo(1);
        due("no bearing", x.cross(200), 100);
        offered(x, 1, 2);
        due("given", x.give(1, 0), 3);
        x.undo(1);
        due("offer", x.about(3), 0);
        due("what was given stays", x.given(0), 0);
        x.water(4, 5);
        x.water(6, 7);
        x.undo(1);
        due("water x", x.about(9), 4);
        due("water y", x.about(10), 5);
    }

    private static void undoingFifty() {
        LightList x = new LightList();
        for (int i = 0; i < 60; i++) x.days(i, 0);
        due("only 50 can be", x.about(8), 50);
        due("undo 51", x.undo(51), NONE);
        due("undo 20", x.undo(20), 20);
        due("day 39", x.about(5), 39);
        due("30 left", x.about(8), 30);
        for (int i = 0; i < 7; i++) x.days(100 + i, 0);
        due("37", x.about(8), 37);
        due("undo 38", x.undo(38), NONE);
        due("undo 37", x.undo(37), 37);
        due("day 9", x.about(5), 9);
        due("none left", x.undo(1), NONE);
        for (int i = 0; i < 50; i++) x.days(i, 0);
        due("undo 50", x.undo(50), 50);
        due("day 9 again", x.about(5), 9);
    }

    // ---- 33, 34 ----

    private static void images() {
        LightList x = new LightList();
        for (int k : new int[] {-1, 3, LEAST, MOST}) {
            due("keep " + k, x.keep(k), false);
            due("back " + k, x.back(k), false);
        }
        row(x, 5, 5);
        x.light(0, SECTOR, 0, 0, 0, 100, 1);
        x.direct(0, 1, 0, 2);
        x.mark(9, 9);
        x.haze(Float.floatToIntBits(0.5f));
        x.notice(0, MOVED, 3, 4, 2, NONE, 1);
        x.days(2, 1);
        sighting(x, 0, 0);
        x.bear(0, 1, 0);
        offered(x, 2, 2);
        x.water(8, 9);
        due("keep is no act", x.about(8), 10);
        due("keep 2", x.keep(2), true);
        due("nor does it take any", x.about(8), 10);
        int[] told = new int[11];
        for (int what = 0; what <= 10; what++) told[what] = x.about(what);
        x.direct(0, 0, 1, 3);
        x.clear(9);
        x.mark(9, 10);
        x.haze(0);
        x.notice(0, OUT, 0, 0, 0, NONE, 0);
        x.days(0, 0);
        sighting(x, 0, 0);
        x.bear(0, 0, 1);
        offered(x, 1, 2);
        x.give(2, 0);
        x.water(0, 0);
        x.keep(0);
        x.span(3);
        due("back 2", x.back(2), true);
        for (int what = 0; what <= 10; what++) {
            due("about " + what + " behind back", x.about(what), what == 4 ? 1 : what == 8 ? 0 : told[what]);
        }
        due("nothing can be undone", x.undo(1), NONE);
        due("what was given stays", x.given(1), 1);
        due("the mark", x.number(9), 9);
        due("lit", x.lit(0), 1);
        due("moved", x.of(0, 2), 3);
        due("directions", x.of(0, 7), 1);
        due("an act on it", x.direct(0, 0, 1, 1), 2);
        due("is not in the image", x.back(2) ? x.of(0, 7) : NONE, 1);
        due("back 0", x.back(0), true);
        due("the other image", x.number(9), 10);
        due("its directions", x.of(0, 7), 2);
        due("out there", x.lit(0), 0);
        due("the empty image", x.back(1), true);
        due("no lights", x.about(0), 0);
        due("no place", x.holds(0), 0);
        due("back again", x.back(0), true);
        due("an image stays", x.about(0), 1);
        x.mark(50, 1);
        due("acts behind back can be undone", x.undo(1), 1);
        due("kept over another one", x.keep(1), true);
        x.back(2);
        x.back(1);
        due("the later one", x.number(9), 10);
    }

    // ---- 35 ----

    private static void abouts() {
        LightList x = new LightList();
        flash(x, 0, 1, 1);
        flash(x, 1, 1, 1);
        for (int i = 0; i < 3; i++) x.notice(0, OUT, 0, 0, 5, NONE, 0);
        for (int i = 0; i < 4; i++) sighting(x, 0, 0);
        for (int i = 0; i < 5; i++) offered(x, 1, 1);
        x.days(11, 12);
        x.haze(Float.floatToIntBits(0.125f));
        x.water(-13, 14);
        for (int i = 0; i < 6; i++) x.span(1);
        int[] want = {2, 3, 4, 5, 6, 11, 12, 12, 2 + 3 + 4 + 5 + 3, -13, 14};
        for (int what = 0; what <= 10; what++) due("about " + what, x.about(what), want[what]);
        for (int what : new int[] {-1, 11, LEAST, MOST}) due("about " + what, x.about(what), NONE);
    }
}
