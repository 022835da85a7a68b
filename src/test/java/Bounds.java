import java.io.IOException;
import java.nio.file.Files;
import java.nio.file.Path;
import java.util.ArrayList;
import java.util.List;

/**
 * What the boundary tests share: the sentence of the document that is looked at, the answers that are due, and
 * refused calls, after which everything that can be asked must be as it was.
 */
abstract class Bounds {
    static final int NONE = -1;
    static final int FIXED = 0, FLASH = 1, GROUP = 2, MORSE = 3, SECTOR = 4, SISTER = 5;
    static final int OUT = 0, CHANGED = 1, MOVED = 2;
    static final int LIGHT_FIRST = 1, CUT_FIRST = 2, CUT_LAST = 4;
    static final int LEAST = Integer.MIN_VALUE, MOST = Integer.MAX_VALUE;

    interface Script {
        void on(LightList x);
    }

    /** A call's answer; true counts 1, false 0. */
    interface Call {
        long on(LightList x);
    }

    /** A call whose arguments are handed over in a row, so that one of them can be changed. */
    interface ManyCall {
        long on(LightList x, int[] arguments);
    }

    static final Script NOTHING = x -> { };

    private static final String DOCUMENT = document();
    private static final boolean[] QUOTED = new boolean[DOCUMENT.length()];

    private static String sentence = "";
    private static int sentences = 0;
    private static int asked = 0;
    private static int wrong = 0;

    Bounds() { }

    // ---- the document ----

    /** The sentences of the document, from its terms on, without its headings; empty if it can't be found. */
    private static String document() {
        Path path = Path.of("../shared/DOC.md");
        if (!Files.isRegularFile(path)) return "";
        try {
            String text = Files.readString(path);
            String face = text.replaceAll("(?s)## The public face.*?## Terms", "");
            String told = face.replaceAll("(?s)## Not promised.*", "");
            return plain(told.replaceAll("(?m)^#.*$", "").replaceAll("(?m)^`[^`]*`:", "").replaceAll("==== \\d\\.", ""));
        } catch (IOException e) {
            return "";
        }
    }

    private static String plain(String text) {
        return text.replaceAll("\\s+", " ").trim();
    }

    /** What comes next looks at this part of the document, which must stand there word for word. */
    static void says(String quote) {
        sentence = quote;
        sentences++;
        if (DOCUMENT.isEmpty()) return;
        String wanted = plain(quote);
        int from = DOCUMENT.indexOf(wanted);
        if (from < 0) fail("the document does not say so");
        for (; from >= 0; from = DOCUMENT.indexOf(wanted, from + 1)) {
            for (int i = 0; i < wanted.length(); i++) QUOTED[from + i] = true;
        }
    }

    /** Every number of the document is a bound of something, so it must stand in a sentence that was looked at. */
    static void everyNumberWasQuoted() {
        sentence = "";
        for (int i = 0; i < DOCUMENT.length(); i++) {
            if (Character.isDigit(DOCUMENT.charAt(i)) && !QUOTED[i]) {
                fail("not looked at: " + DOCUMENT.substring(Math.max(0, i - 40), Math.min(DOCUMENT.length(), i + 20)));
            }
        }
        if (DOCUMENT.isEmpty()) System.out.println("boundaries: the document was not found, so no sentence was looked up");
    }

    // ---- answers ----

    private static void fail(String what) {
        wrong++;
        System.out.println((sentence.isEmpty() ? "" : "\"" + sentence + "\": ") + what);
    }

    static void due(String what, long got, long want) {
        asked++;
        if (got != want) fail(what + " answered " + got + ", due is " + want);
    }

    static void due(String what, boolean got, boolean want) {
        due(what, got ? 1 : 0, want ? 1 : 0);
    }

    static int end() {
        System.out.println("boundaries: " + sentences + " parts of the document, " + asked + " answers asked, " + wrong + " wrong");
        return wrong;
    }

    static long yes(boolean answer) {
        return answer ? 1 : 0;
    }

    // ---- making ----

    static LightList after(Script... scripts) {
        LightList x = new LightList();
        for (Script s : scripts) s.on(x);
        return x;
    }

    static void row(LightList x, int... numbers) {
        x.tear();
        for (int t : numbers) x.span(t);
    }

    static int[] times(int count, int number) {
        int[] all = new int[count];
        java.util.Arrays.fill(all, number);
        return all;
    }

    /** A white light at 0, 0 that reaches 100. */
    static int lamp(LightList x, int place, int kind, int n, int... numbers) {
        row(x, numbers);
        return x.light(place, kind, n, 0, 0, 100, 1);
    }

    static int flash(LightList x, int place, int... numbers) {
        return lamp(x, place, FLASH, 0, numbers);
    }

    /** A white sighting at 0, 0. */
    static int seen(LightList x, int error, int flags, int... numbers) {
        row(x, numbers);
        return x.sight(0, 0, 0, 1, error, flags);
    }

    static int offered(LightList x, int... numbers) {
        row(x, numbers);
        return x.offer();
    }

    static void spansAre(String what, LightList x, int light, int... spans) {
        int period = 0;
        due(what + ": how many SPANS", x.of(light, 1), spans.length);
        for (int i = 0; i < spans.length; i++) {
            due(what + ": SPAN " + i, x.spanOf(light, i), spans[i]);
            period += spans[i];
        }
        due(what + ": SPAN behind the last", x.spanOf(light, spans.length), NONE);
        due(what + ": PERIOD", x.of(light, 0), spans.length == 0 ? 1 : period);
    }

    /** Every KIND, a mark, directions, notices, sightings, offers, images: something of all that there is. */
    static void busyCoast(LightList x) {
        lamp(x, 10, FIXED, 0);
        flash(x, 11, 10, 20);
        lamp(x, 12, GROUP, 2, 5, 6, 7);
        lamp(x, 13, MORSE, 5, 4, 40);
        lamp(x, 14, SECTOR, 0, 10, 30);
        lamp(x, 15, SISTER, 2, 8, 9);
        x.mark(20, 700);
        x.direct(14, 1, 0, 2);
        x.direct(14, -1, 3, 3);
        offered(x, 50, 60);
        offered(x, 50, 70);
        x.give(1, 0);
        x.keep(0);
        x.haze(Float.floatToIntBits(0.25f));
        x.notice(1, MOVED, 30, 0, 2, NONE, 1);
        x.notice(2, OUT, 0, 0, 3, 5, 0);
        row(x, 11, 21);
        x.notice(1, CHANGED, 0, 0, 1, 9, 2);
        x.days(3, 2);
        x.keep(1);
        seen(x, 1, LIGHT_FIRST, 10, 20);
        seen(x, 0, 0, 30);
        seen(x, 0, 0);
        x.bear(0, 1, 0);
        x.bear(1, 1, 1);
        x.water(3, -4);
        row(x, 3, 1, 4, 1);
    }

    // ---- refused calls ----

    /** The call answers so, and all that can be asked is as if it had never been made. */
    static void refused(String what, long answer, Script before, Call call) {
        due(what, call.on(after(before)), answer);
        List<String> due = everything(before);
        List<String> got = everything(x -> {
            before.on(x);
            call.on(x);
        });
        for (int i = 0; i < Math.max(due.size(), got.size()); i++) {
            String a = i < due.size() ? due.get(i) : "nothing";
            String b = i < got.size() ? got.get(i) : "nothing";
            if (!a.equals(b)) {
                fail("behind " + what + ", which was refused, it is\n  " + b + "\nbut it was\n  " + a);
                return;
            }
        }
    }

    /** The call answers so, and it is one more act. */
    static void done(String what, long answer, Script before, Call call) {
        LightList x = after(before);
        int acts = x.about(8);
        due(what, call.on(x), answer);
        due(what + ": an act more", x.about(8), Math.min(50, acts + 1));
    }

    /** Of the argument with this number least and greatest are taken, and what is beyond them is refused. */
    static void edges(String what, Script before, ManyCall call, int[] arguments, int number, int least, int greatest,
            long yes, long no) {
        for (int value : new int[] {least, least + 1, greatest - 1, greatest}) {
            if (value < least || value > greatest) continue;
            int[] a = with(arguments, number, value);
            done(what + ", argument " + number + " is " + value, yes, before, x -> call.on(x, a));
        }
        for (int value : new int[] {least - 1, greatest + 1, LEAST, MOST}) {
            int[] a = with(arguments, number, value);
            refused(what + ", argument " + number + " is " + value, no, before, x -> call.on(x, a));
        }
    }

    static int[] with(int[] arguments, int number, int value) {
        int[] a = arguments.clone();
        a[number] = value;
        return a;
    }

    // ---- everything ----

    /** Every part is asked of a new object, so that none gets more calls than it has to answer. */
    static List<String> everything(Script script) {
        List<String> all = new ArrayList<>();
        all.add("counts" + counts(after(script)));
        all.add("places" + places(after(script)));
        int lights = after(script).about(0);
        for (int first = 0; first < lights; first += 4) all.add("lights" + lights(after(script), first, first + 4));
        int sightings = after(script).about(2);
        for (int first = 0; first < sightings; first += 20) all.add("sightings" + sightings(after(script), first, first + 20));
        all.add("questions" + questions(after(script)));
        all.add("THE ROW" + numbersInRow(after(script)));
        past(all, script);
        for (int k = 0; k < 3; k++) {
            LightList x = after(script);
            all.add("back " + k + ": " + x.back(k) + counts(x) + lights(x, 0, 3));
            LightList y = after(script);
            y.back(k);
            all.add("back " + k + ": " + places(y));
        }
        return all;
    }

    private static void past(List<String> all, Script script) {
        int acts = after(script).about(8);
        for (int n : new int[] {1, acts / 2, acts, acts + 1}) {
            LightList x = after(script);
            all.add("undo " + n + ": " + x.undo(n) + counts(x) + lights(x, 0, 3) + sightings(x, 0, 3));
            LightList y = after(script);
            y.undo(n);
            all.add("undo " + n + ": " + places(y));
        }
    }

    private static String counts(LightList x) {
        StringBuilder s = new StringBuilder();
        for (int what = 0; what <= 10; what++) s.append(' ').append(x.about(what));
        for (int k = 0; k <= 6; k++) s.append(" g").append(x.given(k));
        return s.toString();
    }

    private static String places(LightList x) {
        StringBuilder s = new StringBuilder();
        for (int place = 0; place < 100; place++) {
            int held = x.holds(place);
            if (held != 0) s.append(' ').append(place).append(':').append(held).append('=').append(x.number(place));
        }
        return s.toString();
    }

    private static String lights(LightList x, int first, int behind) {
        StringBuilder s = new StringBuilder();
        for (int light = first; light < behind && x.lit(light) != NONE; light++) {
            s.append(" | ").append(light).append(x.lit(light) == 1 ? " lit" : " out");
            for (int what = 0; what <= 7; what++) s.append(' ').append(x.of(light, what));
            s.append(" spans");
            for (int i = 0; i < 25; i++) s.append(' ').append(x.spanOf(light, i));
            s.append(" round");
            int[][] ways = {{0, 0}, {3, 0}, {3, 1}, {2, 3}, {0, 3}, {-1, 3}, {-3, 0}, {-3, -1}, {0, -3}, {3, -1}};
            for (int[] way : ways) s.append(' ').append(x.at(light, 0, x.of(light, 2) + way[0], x.of(light, 3) + way[1]));
        }
        return s.toString();
    }

    private static String sightings(LightList x, int first, int behind) {
        StringBuilder s = new StringBuilder();
        for (int sighting = first; sighting < behind && x.which(sighting) != NONE; sighting++) {
            s.append(" | ").append(sighting).append(' ').append(x.which(sighting)).append(' ').append(x.sure(sighting));
            s.append(' ').append(x.one(sighting, 0)).append(' ').append(x.ask(sighting)).append(" fits");
            for (int light = 0; light < 5; light++) s.append(' ').append(x.fits(sighting, light));
        }
        return s.toString();
    }

    private static String questions(LightList x) {
        StringBuilder s = new StringBuilder();
        for (int g : new int[] {50, 200}) s.append(' ').append(x.cross(g)).append(' ').append(x.square(g, 1));
        for (int error : new int[] {0, 9, 50}) {
            s.append(' ').append(x.check(error)).append(' ').append(x.apart(0, 1, error)).append(' ').append(x.give(2, error));
            s.append(' ').append(x.given(0)).append(' ').append(x.given(1)).append(' ').append(x.give(1, error));
        }
        return s.toString();
    }

    /** THE ROW goes over to the coast of the last image, which has room for a light at place 99. */
    private static String numbersInRow(LightList x) {
        StringBuilder s = new StringBuilder();
        int length = x.about(4);
        x.back(2);
        if (length % 2 == 1) x.span(1);
        int light = x.light(99, FLASH, 0, 0, 0, 1, 1);
        for (int i = 0; i < length; i++) s.append(' ').append(x.spanOf(light, i));
        return s.append(" of ").append(length).toString();
    }
}
