import java.util.LinkedHashMap;
import java.util.List;
import java.util.Map;

/** The boundary cases of promises 32 to 35: what is UNDONE, IMAGES, what is told about all, and 512 calls. */
final class BoundsOfPast extends Bounds {
    private static final int CALLS_OF_BUSY_COAST = 62;

    private BoundsOfPast() { }

    static void all() {
        undoArguments();
        undoOfFifty();
        actsAreUndone();
        actsDoNothingElse();
        whatIsNoAct();
        undoBeyondFifty();
        keepAndBackArguments();
        imagesHoldAll();
        imagesAreApart();
        backIsNotUndone();
        abouts();
        fiveHundredAndTwelve();
    }

    // ---- 32 ----

    private static void undoArguments() {
        says("The latest n acts (0 .. 50) are UNDONE: n; NONE, doing nothing, if there are not so many.");
        for (int acts : new int[] {0, 1, 2, 49, 50}) {
            Script before = x -> {
                for (int i = 0; i < acts; i++) x.days(i + 1, i);
                row(x, 1, 2, 3);
            };
            for (int n : new int[] {acts + 1, 51, 52, 100, -1, -2, -50, LEAST, MOST}) {
                refused("undo " + n + " of " + acts, NONE, before, x -> x.undo(n));
            }
            for (int n : new int[] {0, 1, acts - 1, acts}) {
                if (n < 0 || n > acts) continue;
                LightList x = after(before);
                due("undo " + n + " of " + acts, x.undo(n), n);
                due("DAY", x.about(5), acts - n);
                due("KNOWN", x.about(6), Math.max(0, acts - n - 1));
                due("acts left", x.about(8), acts - n);
                due("THE ROW", x.about(4), 3);
                due("one too many", x.undo(acts - n + 1), NONE);
                due("the rest", x.undo(acts - n), acts - n);
                due("DAY at first", x.about(5), 0);
            }
        }
        List<String> before = everything(Bounds::busyCoast);
        List<String> behind = everything(x -> {
            busyCoast(x);
            x.undo(0);
        });
        due("undo 0 does nothing", behind.equals(before), true);
    }

    private static void undoOfFifty() {
        says("the last 50 that were done;");
        for (int acts : new int[] {49, 50, 51, 60, 99, 100, 101, 151}) {
            int can = Math.min(50, acts);
            Script before = x -> {
                for (int i = 1; i <= acts; i++) x.days(i, 0);
            };
            LightList x = after(before);
            due("acts that can be undone of " + acts, x.about(8), can);
            due("one more", x.undo(can + 1), NONE);
            due("all at once", x.undo(can), can);
            due("DAY", x.about(5), acts - can);
            due("no more", x.undo(1), NONE);
            LightList y = after(before);
            for (int i = 1; i <= can; i++) {
                due("one by one", y.undo(1), 1);
                due("DAY one by one", y.about(5), acts - i);
            }
            due("no more behind that", y.undo(1), NONE);
            due("0 can always be", y.undo(0), 0);
        }
    }

    /** Every act, each on a coast where it can be done. */
    private static Map<String, Call> acts() {
        Map<String, Call> acts = new LinkedHashMap<>();
        acts.put("light", x -> x.light(50, FLASH, 0, 5, 5, 50, 2));
        acts.put("mark", x -> yes(x.mark(50, 5)));
        acts.put("clear", x -> yes(x.clear(20)));
        acts.put("direct", x -> x.direct(14, 3, 1, 1));
        acts.put("haze", x -> x.haze(Float.floatToIntBits(0.875f)));
        acts.put("haze of a NaN", x -> x.haze(0x7FC00000));
        acts.put("notice OUT", x -> x.notice(1, OUT, 0, 0, 0, NONE, 0));
        acts.put("notice CHANGED", x -> x.notice(1, CHANGED, 0, 0, 2, NONE, 0));
        acts.put("notice MOVED", x -> x.notice(1, MOVED, -9, 9, 2, NONE, 0));
        acts.put("days", x -> yes(x.days(0, 0)));
        acts.put("days as they are", x -> yes(x.days(x.about(5), x.about(6))));
        acts.put("sight", x -> x.sight(1, 1, 1, 1, 1, 1));
        acts.put("bear", x -> yes(x.bear(2, 0, 1)));
        acts.put("bear again", x -> yes(x.bear(0, 0, 1)));
        acts.put("offer", x -> x.offer());
        acts.put("water", x -> yes(x.water(70, 70)));
        return acts;
    }

    private static void actsAreUndone() {
        says("Acts are: light, mark, clear, direct, haze, notice, days, sight, bear, offer, water, when they were done.");
        for (Map.Entry<String, Call> act : acts().entrySet()) {
            LightList x = after(Bounds::busyCoast);
            int before = x.about(8);
            due(act.getKey() + " is done", act.getValue().on(x) >= 0, true);
            due(act.getKey() + " is an act", x.about(8), before + 1);
            List<String> undone = everything(y -> {
                busyCoast(y);
                act.getValue().on(y);
                y.undo(1);
                y.tear();
            });
            List<String> was = everything(y -> {
                busyCoast(y);
                y.tear();
            });
            due(act.getKey() + " is undone, and all is as it was", undone.equals(was), true);
            for (Map.Entry<String, Call> next : acts().entrySet()) undoneTogether(act, next);
        }
    }

    /** The second may be refused behind the first, and is no act then. */
    private static void undoneTogether(Map.Entry<String, Call> first, Map.Entry<String, Call> second) {
        LightList x = after(Bounds::busyCoast);
        List<Integer> before = told(x);
        int acts = x.about(8);
        first.getValue().on(x);
        row(x, 3, 3);
        second.getValue().on(x);
        int done = x.about(8) - acts;
        String what = first.getKey() + " and " + second.getKey();
        due(what, x.undo(done), done);
        due(what + " are undone", told(x).equals(before), true);
    }

    private static List<Integer> told(LightList x) {
        return List.of(x.about(0), x.about(1), x.about(2), x.about(3), x.about(5), x.about(6), x.about(7), x.about(8),
            x.about(9), x.about(10));
    }

    /** Each act changes what it says, and leaves the rest. */
    private static void actsDoNothingElse() {
        Map<String, List<Integer>> changes = Map.of("light", List.of(0, 4), "notice OUT", List.of(1), "notice MOVED", List.of(1),
            "notice CHANGED", List.of(1, 4), "sight", List.of(2, 4), "offer", List.of(3, 4), "days", List.of(5, 6),
            "haze", List.of(7), "haze of a NaN", List.of(7), "water", List.of(9, 10));
        for (Map.Entry<String, Call> act : acts().entrySet()) {
            LightList x = after(Bounds::busyCoast);
            int[] before = new int[11];
            for (int what = 0; what <= 10; what++) before[what] = x.about(what);
            act.getValue().on(x);
            for (int what = 0; what <= 10; what++) {
                boolean isChanged = what == 8 || changes.getOrDefault(act.getKey(), List.of()).contains(what);
                due(act.getKey() + (isChanged ? " changes " : " leaves ") + what, x.about(what) != before[what], isChanged);
            }
        }
    }

    private static void whatIsNoAct() {
        Map<String, Call> others = new LinkedHashMap<>();
        others.put("span", x -> x.span(5));
        others.put("tear", x -> x.tear());
        others.put("give", x -> x.give(1, 0));
        others.put("keep", x -> yes(x.keep(2)));
        others.put("undo 0", x -> x.undo(0));
        others.put("cross", x -> x.cross(20));
        others.put("check", x -> x.check(0));
        others.put("ask", x -> x.ask(0));
        for (Map.Entry<String, Call> other : others.entrySet()) {
            LightList x = after(Bounds::busyCoast);
            int acts = x.about(8);
            other.getValue().on(x);
            due(other.getKey() + " is no act", x.about(8), acts);
        }
        LightList x = after(y -> y.mark(1, 1), y -> y.keep(0), y -> y.mark(2, 2));
        x.undo(1);
        x.keep(1);
        due("keep is not undone", x.undo(1), 1);
        x.back(1);
        due("an IMAGE stays", x.number(1), 1);
        due("without what was undone before", x.holds(2), 0);
    }

    private static void undoBeyondFifty() {
        says("UNDONE they are from the latest on,");
        LightList x = new LightList();
        for (int i = 1; i <= 60; i++) x.days(i, 0);
        x.undo(20);
        due("DAY 40", x.about(5), 40);
        due("30 are left", x.about(8), 30);
        for (int i = 1; i <= 20; i++) x.days(100 + i, 0);
        due("50 again", x.about(8), 50);
        x.days(200, 0);
        due("not 51", x.about(8), 50);
        due("all of them", x.undo(50), 50);
        due("DAY 11", x.about(5), 11);
        for (int i = 0; i < 49; i++) x.days(300 + i, 0);
        due("49 done anew", x.about(8), 49);
        due("not 50", x.undo(50), NONE);
        due("49", x.undo(49), 49);
        due("DAY 11 again", x.about(5), 11);
        LightList y = new LightList();
        for (int i = 0; i < 60; i++) {
            y.mark(i, i);
            y.mark(i, i + 1);
        }
        due("refused ones don't push others out", y.undo(50), 50);
        due("MARK 9 stays", y.number(9), 9);
        due("MARK 10 is gone", y.holds(10), 0);
    }

    // ---- 33, 34 ----

    private static void keepAndBackArguments() {
        says("IMAGE k (0 .. 2) is all as it is: true; false if there is none such.");
        for (int k : new int[] {-1, 3, 4, LEAST, MOST}) refused("keep " + k, 0, Bounds::busyCoast, x -> yes(x.keep(k)));
        for (int k = 0; k <= 2; k++) due("keep " + k, after(Bounds::busyCoast).keep(k), true);
        says("All is as IMAGE k has it: true; false if there is none such.");
        for (int k : new int[] {-1, 3, 4, LEAST, MOST}) refused("back " + k, 0, Bounds::busyCoast, x -> yes(x.back(k)));
        for (int k = 0; k <= 2; k++) due("back " + k, after(Bounds::busyCoast).back(k), true);
    }

    private static void imagesHoldAll() {
        for (int k = 0; k <= 2; k++) {
            int image = k;
            List<String> kept = everything(x -> {
                busyCoast(x);
                x.keep(image);
                x.back(image);
                x.tear();
            });
            for (Map.Entry<String, Call> act : acts().entrySet()) {
                List<String> back = everything(x -> {
                    busyCoast(x);
                    x.keep(image);
                    act.getValue().on(x);
                    x.back(image);
                    x.tear();
                });
                due("IMAGE " + k + " has all that " + act.getKey() + " does", back.equals(kept), true);
                List<String> twice = everything(x -> {
                    busyCoast(x);
                    x.keep(image);
                    x.back(image);
                    act.getValue().on(x);
                    x.back(image);
                    x.tear();
                });
                due(act.getKey() + " does not go into IMAGE " + k, twice.equals(kept), true);
            }
        }
    }

    private static void imagesAreApart() {
        LightList x = new LightList();
        for (int k = 0; k <= 2; k++) {
            x.mark(k, 10 * k);
            x.keep(k);
        }
        for (int k : new int[] {0, 2, 1, 1, 0}) {
            due("back " + k, x.back(k), true);
            for (int place = 0; place <= 3; place++) due("IMAGE " + k + ", PLACE " + place, x.number(place), place <= k ? 10 * place : NONE);
        }
        x.back(2);
        x.keep(0);
        x.back(1);
        x.back(0);
        due("one that was kept over another", x.number(2), 20);
    }

    private static void backIsNotUndone() {
        says("behind back() nothing can be undone.");
        for (int acts : new int[] {0, 1, 49, 50, 51}) {
            LightList x = new LightList();
            for (int i = 0; i < acts; i++) x.days(i, 1);
            x.keep(0);
            x.back(0);
            due("acts that can be undone", x.about(8), 0);
            due("undo 1", x.undo(1), NONE);
            due("undo 0", x.undo(0), 0);
            due("DAY stays", x.about(5), Math.max(0, acts - 1));
            for (int i = 1; i <= 50; i++) {
                x.days(500 + i, 1);
                due("acts behind it", x.about(8), i);
            }
            due("they can be undone", x.undo(50), 50);
            due("as far as back()", x.about(5), Math.max(0, acts - 1));
            due("no farther", x.undo(1), NONE);
        }
        LightList refused = after(x -> x.mark(1, 1));
        refused.back(3);
        due("behind one that was refused", refused.about(8), 1);
    }

    // ---- 35 ----

    private static void abouts() {
        says("What 0: LIGHTS, 1: NOTICES, 2: SIGHTINGS, 3: OFFERS, 4: numbers in THE ROW, 5: DAY, 6: KNOWN, 7: H, 8: acts that can be undone, 9: THE WATER's x, 10: its y. NONE for another what.");
        int[] want = {6, 3, 3, 2, 4, 3, 2, 25, 22, 3, -4};
        LightList x = after(Bounds::busyCoast);
        for (int what = 0; what <= 10; what++) due("about " + what, x.about(what), want[what]);
        for (int what : new int[] {-1, 11, 12, LEAST, MOST}) refused("about " + what, NONE, Bounds::busyCoast, y -> y.about(what));
    }

    // ---- the calls of one object ----

    private static void fiveHundredAndTwelve() {
        says("An object is used for at most 512 calls after it has been made; what later calls answer is free.");
        Map<String, Call> last = new LinkedHashMap<>(acts());
        last.put("span", x -> x.span(5));
        last.put("tear", x -> x.tear());
        last.put("holds", x -> x.holds(14));
        last.put("number", x -> x.number(20));
        last.put("lit", x -> x.lit(5));
        last.put("of", x -> x.of(1, 0));
        last.put("spanOf", x -> x.spanOf(1, 1));
        last.put("at", x -> x.at(4, 0, 3, 0));
        last.put("fits", x -> x.fits(0, 1));
        last.put("which", x -> x.which(2));
        last.put("one", x -> x.one(2, 0));
        last.put("sure", x -> x.sure(1));
        last.put("ask", x -> x.ask(2));
        last.put("cross", x -> x.cross(20));
        last.put("square", x -> x.square(20, 0));
        last.put("apart", x -> x.apart(1, 2, 0));
        last.put("check", x -> x.check(50));
        last.put("give", x -> x.give(2, 0));
        last.put("given", x -> x.given(0));
        last.put("undo", x -> x.undo(22));
        last.put("keep", x -> yes(x.keep(0)));
        last.put("back", x -> yes(x.back(0)));
        last.put("about", x -> x.about(9));
        for (Map.Entry<String, Call> call : last.entrySet()) {
            LightList x = after(Bounds::busyCoast);
            for (int i = CALLS_OF_BUSY_COAST + 1; i < 512; i++) x.holds(0);
            due(call.getKey() + " as the 512th call", call.getValue().on(x), call.getValue().on(after(Bounds::busyCoast)));
        }
        LightList y = new LightList();
        for (int i = 1; i < 512; i++) y.days(i, 0);
        due("behind 511 acts", y.about(5), 511);
        LightList z = new LightList();
        for (int i = 1; i < 512; i++) z.days(i, 0);
        due("undo behind 511 acts", z.undo(50), 50);
    }
}
