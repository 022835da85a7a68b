import java.util.List;

/** The boundary cases of promises 1 to 9: a new object, THE ROW, LIGHTS, MARKS, PLACES and DIRECTIONS. */
final class BoundsOfCoast extends Bounds {
    private BoundsOfCoast() { }

    static void all() {
        newObject();
        rowNumbers();
        rowFull();
        rowTorn();
        rowTaken();
        lightArguments();
        lightPlaces();
        lightsFull();
        rowsAndNumbers();
        fixed();
        groups();
        morses();
        sisters();
        periods();
        periodsOfGroups();
        periodsOfMorses();
        marks();
        clears();
        holding();
        directArguments();
        directWithoutSector();
        directLike();
        directFull();
        directionsRound();
        directionsWrapRound();
    }

    // ---- 1 ----

    private static void newObject() {
        says("An empty coast, THE ROW empty, THE WATER at 0, 0, three empty IMAGES.");
        LightList x = new LightList();
        for (int what = 0; what <= 10; what++) due("about " + what + " of a new object", x.about(what), 0);
        for (int place = 0; place < 100; place++) due("place " + place + " of a new object", x.holds(place), 0);
        for (int k = 0; k < 3; k++) {
            int image = k;
            Script busy = y -> {
                flash(y, 3, 10, 20);
                y.mark(4, 5);
                y.notice(0, OUT, 0, 0, 0, NONE, 0);
                y.haze(Float.floatToIntBits(0.5f));
                y.days(7, 8);
                seen(y, 0, 0);
                offered(y, 1, 2);
                y.water(9, 9);
            };
            due("back to the empty IMAGE " + k, after(busy).back(k), true);
            List<String> empty = everything(NOTHING);
            List<String> back = everything(y -> {
                busy.on(y);
                y.back(image);
            });
            due("the empty IMAGE " + k + " has nothing: " + back, back.equals(empty), true);
        }
        says("`NONE = -1`: There is none.");
        due("NONE", LightList.NONE, -1);
    }

    // ---- 2, 3 ----

    private static void rowNumbers() {
        says("A number behind THE ROW's: how many there are; NONE: it is not 1 .. 600, or there are 24.");
        for (int length : new int[] {0, 1, 23}) {
            Script before = x -> row(x, times(length, 2));
            for (int t : new int[] {0, -1, LEAST, 601, 602, MOST}) refused("span " + t, NONE, before, x -> x.span(t));
            for (int t : new int[] {1, 2, 599, 600}) {
                LightList x = after(before);
                due("span " + t, x.span(t), length + 1);
                due("span " + t + " is there", x.about(4), length + 1);
            }
        }
        LightList x = after(y -> row(y, 600, 1, 1, 598));
        due("the numbers are as they were put", x.light(0, FLASH, 0, 0, 0, 1, 1), 0);
        spansAre("least and greatest", x, 0, 600, 1, 1, 598);
    }

    private static void rowFull() {
        says("THE ROW is a row of numbers 1 .. 600 that is put together, 24 at most; what takes it leaves it empty.");
        int[] numbers = new int[24];
        for (int i = 0; i < 24; i++) numbers[i] = 1 + i;
        LightList x = new LightList();
        for (int i = 0; i < 24; i++) due("number " + (i + 1), x.span(numbers[i]), i + 1);
        Script full = y -> row(y, numbers);
        for (int t : new int[] {1, 24, 600, 0, 601}) refused("a 25th number " + t, NONE, full, y -> y.span(t));
        x.span(30);
        due("24 can be taken", x.light(0, FLASH, 0, 0, 0, 1, 1), 0);
        spansAre("24 SPANS", x, 0, numbers);
        due("behind it there is room again", x.span(5), 1);
    }

    private static void rowTorn() {
        says("THE ROW is empty: how many numbers it had.");
        for (int length : new int[] {0, 1, 23, 24}) {
            LightList x = after(y -> row(y, times(length, 50)));
            due("tear of " + length, x.tear(), length);
            due("then it has none", x.about(4), 0);
            due("torn again", x.tear(), 0);
            due("no act", x.about(8), 0);
            due("the next is the first", x.span(7), 1);
        }
    }

    private static void takes(String what, boolean isTaken, int length, Script before, Call call) {
        LightList x = after(before);
        row(x, times(length, 2));
        long answer = call.on(x);
        due(what + " is done", answer >= 0, true);
        due(what + (isTaken ? " takes THE ROW" : " leaves THE ROW"), x.about(4), isTaken ? 0 : length);
    }

    private static void rowTaken() {
        says("what takes it leaves it empty.");
        takes("a FLASH", true, 2, NOTHING, x -> x.light(0, FLASH, 0, 0, 0, 1, 1));
        takes("a GROUP", true, 3, NOTHING, x -> x.light(0, GROUP, 2, 0, 0, 1, 1));
        takes("a MORSE", true, 2, NOTHING, x -> x.light(0, MORSE, 2, 0, 0, 1, 1));
        takes("a SECTOR", true, 24, NOTHING, x -> x.light(0, SECTOR, 0, 0, 0, 1, 1));
        takes("a SISTER", true, 4, NOTHING, x -> x.light(0, SISTER, 1, 0, 0, 1, 1));
        takes("sight", true, 1, NOTHING, x -> x.sight(0, 0, 0, 1, 0, 0));
        takes("offer", true, 2, NOTHING, x -> x.offer());
        Script busy = Bounds::busyCoast;
        for (int length : new int[] {1, 2, 3, 24}) {
            takes("mark", false, length, busy, x -> yes(x.mark(0, 1)));
            takes("clear", false, length, busy, x -> yes(x.clear(20)));
            takes("direct", false, length, busy, x -> x.direct(14, 7, 7, 1));
            takes("haze", false, length, busy, x -> x.haze(0));
            takes("days", false, length, busy, x -> yes(x.days(1, 1)));
            takes("bear", false, length, busy, x -> yes(x.bear(0, 1, 1)));
            takes("water", false, length, busy, x -> yes(x.water(1, 1)));
            takes("give", false, length, busy, x -> x.give(1, 0));
            takes("check", false, length, busy, x -> x.check(0) + 2);
            takes("ask", false, length, busy, x -> x.ask(0));
            takes("cross", false, length, busy, x -> x.cross(200) + 200);
            takes("keep", false, length, busy, x -> yes(x.keep(0)));
        }
        says("(a notice() for CHANGED takes THE ROW, others leave it)");
        takes("CHANGED", true, 2, busy, x -> x.notice(1, CHANGED, 0, 0, 0, NONE, 0));
        takes("OUT", false, 2, busy, x -> x.notice(1, OUT, 0, 0, 0, NONE, 0));
        takes("MOVED", false, 2, busy, x -> x.notice(1, MOVED, 1, 1, 0, NONE, 0));
        says("UNDONE they are from the latest on, the last 50 that were done; THE ROW stays as it is.");
        for (int length : new int[] {1, 24}) takes("undo", false, length, busy, x -> x.undo(3));
        LightList x = after(y -> flash(y, 0, 5, 6));
        due("undo of what took it", x.undo(1), 1);
        due("does not bring it back", x.about(4), 0);
        says("An IMAGE is all but THE ROW, what was given, and what can be undone; behind back() nothing can be undone.");
        for (int length : new int[] {1, 24}) takes("back", false, length, busy, y -> yes(y.back(0)));
        LightList z = after(y -> row(y, 5, 6, 7), y -> y.keep(0), y -> y.tear());
        due("back to an IMAGE that was kept with a ROW", z.back(0), true);
        due("does not bring it back", z.about(4), 0);
    }

    // ---- 4 ----

    private static long light(LightList x, int[] a) {
        return x.light(a[0], a[1], a[2], a[3], a[4], a[5], a[6]);
    }

    private static void lightArguments() {
        says("each stands at x, y (-1000 .. 1000), has a reach 1 .. 2000 and a colour: 1 white, 2 red, 3 green; and a KIND with a number n:");
        int[][] rows = {{}, {10, 20}, {5, 6, 7}, {4, 40}, {10, 30}, {8, 9}};
        int[] ns = {0, 0, 2, 5, 0, 2};
        for (int kind = FIXED; kind <= SISTER; kind++) {
            int[] numbers = rows[kind];
            Script before = x -> row(x, numbers);
            int[] good = {5, kind, ns[kind], 0, 0, 5, 1};
            ManyCall call = BoundsOfCoast::light;
            edges("light of KIND " + kind, before, call, good, 3, -1000, 1000, 0, NONE);
            edges("light of KIND " + kind, before, call, good, 4, -1000, 1000, 0, NONE);
            edges("light of KIND " + kind, before, call, good, 5, 1, 2000, 0, NONE);
            edges("light of KIND " + kind, before, call, good, 6, 1, 3, 0, NONE);
            edges("light of KIND " + kind, before, call, good, 0, 0, 99, 0, NONE);
        }
        for (int kind : new int[] {-1, 6, LEAST, MOST}) {
            for (int[] numbers : rows) {
                for (int n : new int[] {0, 2}) {
                    refused("light of KIND " + kind, NONE, x -> row(x, numbers), x -> x.light(5, kind, n, 0, 0, 5, 1));
                }
            }
        }
        for (int corner = 0; corner < 4; corner++) {
            int px = corner % 2 == 0 ? -1000 : 1000;
            int py = corner / 2 == 0 ? -1000 : 1000;
            for (int reach : new int[] {1, 2000}) {
                for (int colour = 1; colour <= 3; colour++) {
                    LightList x = new LightList();
                    due("a corner", x.light(99, FIXED, 0, px, py, reach, colour), 0);
                    due("its x", x.of(0, 2), px);
                    due("its y", x.of(0, 3), py);
                    due("its reach", x.of(0, 4), reach);
                    due("its colour", x.at(0, 0, px, py), colour);
                }
            }
        }
    }

    private static void lightPlaces() {
        says("A LIGHT at a PLACE that holds nothing: its number; NONE, doing nothing: one of these can't be, THE ROW is not as it must be, the PERIOD would be above 1200, there are 60.");
        for (int place : new int[] {10, 14, 15, 20}) {
            refused("light where something is held", NONE, Bounds::busyCoast, x -> x.light(place, FLASH, 0, 0, 0, 5, 1));
        }
        done("light beside it", 6, Bounds::busyCoast, x -> x.light(21, FLASH, 0, 0, 0, 5, 1));
        Script cleared = x -> {
            busyCoast(x);
            x.clear(20);
        };
        done("light where a MARK was", 6, cleared, x -> x.light(20, FLASH, 0, 0, 0, 5, 1));
        says("A PLACE of the coast (0 .. 99) holds a LIGHT, a MARK (a number), or nothing; each LIGHT stands at one, none at two.");
        LightList x = after(Bounds::busyCoast);
        for (int light = 0; light < 6; light++) {
            int standing = 0;
            for (int place = 0; place < 100; place++) {
                if (x.holds(place) >= 1 && x.holds(place) <= 6 && x.number(place) == light) standing++;
            }
            due("light " + light + " stands at one PLACE", standing, 1);
            due("which it tells", x.number(x.of(light, 6)), light);
        }
    }

    private static void lightsFull() {
        says("LIGHTS are numbered from 0 on, 60 at most;");
        LightList x = new LightList();
        for (int i = 0; i < 60; i++) due("light " + i, x.light(99 - i, FIXED, 0, i, 0, 1, 1), i);
        Script full = y -> {
            for (int i = 0; i < 60; i++) y.light(i, FIXED, 0, i, 0, 1, 1);
        };
        refused("the 61st", NONE, full, y -> y.light(60, FIXED, 0, 0, 0, 1, 1));
        refused("the 61st, a FLASH", NONE, y -> {
            full.on(y);
            row(y, 3, 4);
        }, y -> y.light(60, FLASH, 0, 0, 0, 1, 1));
        due("one is undone", x.undo(1), 1);
        due("there is room for one", x.light(0, FIXED, 0, 0, 0, 1, 1), 59);
        due("for one alone", x.light(1, FIXED, 0, 0, 0, 1, 1), NONE);
    }

    /** Every length of THE ROW, and numbers n by the bounds, with every KIND. */
    private static void rowsAndNumbers() {
        says("0 FIXED: THE ROW must be empty, n 0: always light (it has no SPANS, its PERIOD is 1).");
        rowsAndNumbers(FIXED, 0, 0, 0, 0);
        says("1 FLASH: THE ROW is its CHARACTER (2 numbers or more, as many light as dark; n 0).");
        rowsAndNumbers(FLASH, 2, 24, 0, 0);
        says("2 GROUP: n (2 .. 8) flashes; THE ROW has three numbers f g d: f light, g dark between, d dark behind the last.");
        rowsAndNumbers(GROUP, 3, 3, 2, 8);
        says("3 MORSE: THE ROW has two numbers u d; n (2 .. 127) in binary, without its highest 1, from the next one on: a 0 is u light, a 1 three times u; u dark between, d dark behind the last.");
        rowsAndNumbers(MORSE, 2, 2, 2, 127);
        says("4 SECTOR: as FLASH; it shows colours by directions (see 2).");
        rowsAndNumbers(SECTOR, 2, 24, 0, 0);
        says("5 SISTER: as FLASH; a second lamp above it is always light, of colour n (1 .. 3).");
        rowsAndNumbers(SISTER, 2, 24, 1, 3);
    }

    private static void rowsAndNumbers(int kind, int shortest, int longest, int least, int greatest) {
        for (int length = 0; length <= 24; length++) {
            boolean isRow = length >= shortest && length <= longest && (shortest == longest || length % 2 == 0);
            for (int n : new int[] {LEAST, -2, -1, 0, 1, 2, 3, 4, 5, 7, 8, 9, 63, 64, 126, 127, 128, 129, 256, MOST}) {
                int[] numbers = times(length, 2);
                Script before = x -> row(x, numbers);
                Call call = x -> x.light(0, kind, n, 0, 0, 5, 1);
                String what = "KIND " + kind + ", n " + n + ", " + length + " numbers";
                if (isRow && n >= least && n <= greatest) done(what, 0, before, call);
                else refused(what, NONE, before, call);
            }
        }
    }

    private static void fixed() {
        says("always light (it has no SPANS, its PERIOD is 1).");
        LightList x = after(y -> lamp(y, 0, FIXED, 0));
        spansAre("FIXED", x, 0);
        for (int t : new int[] {0, 1, 599, 1200, MOST - 1, MOST}) due("FIXED at " + t, x.at(0, t, 0, 0), 1);
    }

    private static void groups() {
        says("n (2 .. 8) flashes; THE ROW has three numbers f g d: f light, g dark between, d dark behind the last.");
        LightList x = new LightList();
        lamp(x, 0, GROUP, 2, 5, 6, 7);
        spansAre("GROUP of 2", x, 0, 5, 6, 5, 7);
        lamp(x, 1, GROUP, 8, 1, 2, 3);
        spansAre("GROUP of 8", x, 1, 1, 2, 1, 2, 1, 2, 1, 2, 1, 2, 1, 2, 1, 2, 1, 3);
    }

    private static void morses() {
        says("n (2 .. 127) in binary, without its highest 1, from the next one on: a 0 is u light, a 1 three times u; u dark between, d dark behind the last.");
        LightList x = new LightList();
        int[][] told = {
            {2, 5, 9}, {3, 15, 9}, {4, 5, 5, 5, 9}, {5, 5, 5, 15, 9}, {6, 15, 5, 5, 9}, {7, 15, 5, 15, 9}, {8, 5, 5, 5, 5, 5, 9},
            {63, 15, 5, 15, 5, 15, 5, 15, 5, 15, 9}, {64, 5, 5, 5, 5, 5, 5, 5, 5, 5, 5, 5, 9},
            {65, 5, 5, 5, 5, 5, 5, 5, 5, 5, 5, 15, 9}, {96, 15, 5, 5, 5, 5, 5, 5, 5, 5, 5, 5, 9},
            {127, 15, 5, 15, 5, 15, 5, 15, 5, 15, 5, 15, 9},
        };
        for (int i = 0; i < told.length; i++) {
            int n = told[i][0];
            due("MORSE " + n, lamp(x, i, MORSE, n, 5, 9), i);
            spansAre("MORSE " + n, x, i, java.util.Arrays.copyOfRange(told[i], 1, told[i].length));
        }
    }

    private static void sisters() {
        says("a second lamp above it is always light, of colour n (1 .. 3).");
        for (int n = 1; n <= 3; n++) {
            LightList x = new LightList();
            row(x, 2, 3);
            x.light(0, SISTER, n, 0, 0, 5, 3);
            due("both light", x.at(0, 1, 0, 0), 3 + 4 * n);
            due("the second alone", x.at(0, 2, 0, 0), 4 * n);
            due("the last dark tenth", x.at(0, 4, 0, 0), 4 * n);
            due("both again", x.at(0, 5, 0, 0), 3 + 4 * n);
        }
    }

    // ---- the PERIOD ----

    private static int[] rowOfSum(int length, int sum) {
        int[] numbers = times(length, 1);
        int left = sum - length;
        for (int i = 0; i < length; i++) {
            int more = Math.min(599, left);
            numbers[i] += more;
            left -= more;
        }
        return numbers;
    }

    private static void period(String what, int period, int kind, int n, int... numbers) {
        Script before = x -> row(x, numbers);
        Call call = x -> x.light(0, kind, n, 0, 0, 5, 1);
        if (period > 1200) {
            refused(what + " of " + period, NONE, before, call);
            return;
        }
        done(what + " of " + period, 0, before, call);
        LightList x = after(before);
        call.on(x);
        due(what + ": PERIOD", x.of(0, 0), period);
    }

    private static void periods() {
        says("its PERIOD is their sum, 1200 at most.");
        period("the least", 2, FLASH, 0, 1, 1);
        for (int length = 2; length <= 24; length += 2) {
            for (int kind : new int[] {FLASH, SECTOR, SISTER}) {
                int n = kind == SISTER ? 3 : 0;
                period("KIND " + kind, 1199, kind, n, rowOfSum(length, 1199));
                period("KIND " + kind, 1200, kind, n, rowOfSum(length, 1200));
                if (length > 2) period("KIND " + kind, 1201, kind, n, rowOfSum(length, 1201));
                if (length > 2) period("KIND " + kind, length * 600, kind, n, times(length, 600));
            }
        }
        for (int length = 4; length <= 24; length += 2) {
            int[] atMost = rowOfSum(length, 1200);
            int[] above = rowOfSum(length, 1201);
            Script lamp = x -> flash(x, 0, 1, 1);
            refused("CHANGED to 1201", NONE, x -> {
                lamp.on(x);
                row(x, above);
            }, x -> x.notice(0, CHANGED, 0, 0, 0, NONE, 0));
            LightList x = after(lamp, y -> row(y, atMost));
            due("CHANGED to 1200", x.notice(0, CHANGED, 0, 0, 0, NONE, 0), 0);
            due("PERIOD 1200", x.of(0, 0), 1200);
            refused("an OFFER of 1201", NONE, y -> row(y, above), y -> y.offer());
            done("an OFFER of 1200", 0, y -> row(y, atMost), y -> y.offer());
        }
    }

    private static void periodsOfGroups() {
        for (int n = 2; n <= 8; n++) {
            for (int period : new int[] {1199, 1200, 1201}) {
                int g = (period - 600 - n + n - 2) / (n - 1);
                period("GROUP of " + n, period, GROUP, n, 1, g, period - n - g * (n - 1));
                int f = (period - (n - 1)) / n;
                period("GROUP of " + n, period, GROUP, n, f - 1, 1, period - (n - 1) - n * (f - 1));
            }
            period("GROUP of " + n, (2 * n) * 600, GROUP, n, 600, 600, 600);
        }
    }

    private static void periodsOfMorses() {
        for (int n = 2; n <= 127; n++) {
            int units = -1;
            for (char c : Integer.toBinaryString(n).substring(1).toCharArray()) units += c == '1' ? 4 : 2;
            for (int period : new int[] {1199, 1200, 1201}) {
                int u = Math.max(1, Math.min(600, (period - 1) / units));
                int d = period - u * units;
                if (d <= 600) period("MORSE " + n, period, MORSE, n, u, d);
            }
            period("MORSE " + n, 600 * (units + 1), MORSE, n, 600, 600);
        }
    }

    // ---- 5, 6, 7, 8 ----

    private static void marks() {
        says("A MARK (0 .. 1000) at a PLACE that holds nothing: true; false, doing nothing, if it can't be.");
        for (Script before : List.of(NOTHING, (Script) Bounds::busyCoast)) {
            edges("mark", before, (x, a) -> yes(x.mark(a[0], a[1])), new int[] {5, 5}, 0, 0, 99, 1, 0);
            edges("mark", before, (x, a) -> yes(x.mark(a[0], a[1])), new int[] {5, 5}, 1, 0, 1000, 1, 0);
        }
        for (int place : new int[] {10, 11, 12, 13, 14, 15, 20}) {
            for (int number : new int[] {0, 700, 1000}) {
                refused("mark where something is held", 0, Bounds::busyCoast, x -> yes(x.mark(place, number)));
            }
        }
        for (int place : new int[] {0, 99}) {
            for (int number : new int[] {0, 1, 1000}) {
                LightList x = after(y -> y.mark(place, number));
                due("it holds a MARK", x.holds(place), 7);
                due("its number", x.number(place), number);
            }
        }
    }

    private static void clears() {
        says("The PLACE holds nothing any more (a MARK goes): true; false, doing nothing: it holds nothing, or a LIGHT.");
        for (int place : new int[] {-1, 100, LEAST, MOST, 0, 19, 21, 99}) {
            refused("clear of nothing", 0, Bounds::busyCoast, x -> yes(x.clear(place)));
        }
        for (int place = 10; place <= 15; place++) {
            int light = place;
            refused("clear of a LIGHT", 0, Bounds::busyCoast, x -> yes(x.clear(light)));
        }
        for (int place : new int[] {0, 99}) {
            for (int number : new int[] {0, 1000}) {
                done("clear of a MARK", 1, x -> x.mark(place, number), x -> yes(x.clear(place)));
                LightList x = after(y -> y.mark(place, number), y -> y.clear(place));
                due("it holds nothing", x.holds(place), 0);
                due("no number", x.number(place), NONE);
                due("again", x.clear(place), false);
                due("a MARK again", x.mark(place, 1), true);
            }
        }
    }

    private static void holding() {
        says("What a PLACE holds: 0 nothing, 1 .. 6 a LIGHT of KIND 0 .. 5, 7 a MARK; NONE if there is none such.");
        LightList x = after(Bounds::busyCoast);
        for (int kind = 0; kind <= 5; kind++) due("KIND " + kind, x.holds(10 + kind), 1 + kind);
        due("a MARK", x.holds(20), 7);
        for (int place : new int[] {0, 9, 16, 99}) due("nothing at " + place, x.holds(place), 0);
        for (int place : new int[] {-1, 100, LEAST, MOST}) due("none such: " + place, x.holds(place), NONE);
        says("The number of the LIGHT at a PLACE, or of the MARK; NONE if it holds nothing, or there is none such.");
        for (int light = 0; light <= 5; light++) due("LIGHT " + light, x.number(10 + light), light);
        due("the MARK's", x.number(20), 700);
        for (int place : new int[] {0, 9, 16, 99}) due("nothing's at " + place, x.number(place), NONE);
        for (int place : new int[] {-1, 100, LEAST, MOST}) due("none such's: " + place, x.number(place), NONE);
        LightList y = new LightList();
        y.mark(0, 0);
        flash(y, 99, 1, 1);
        due("MARK 0 is a MARK", y.holds(0), 7);
        due("its number is 0", y.number(0), 0);
        due("LIGHT 0 is a LIGHT", y.holds(99), 2);
        due("its number is 0 too", y.number(99), 0);
    }

    // ---- 9 ----

    private static long direct(LightList x, int[] a) {
        return x.direct(a[0], a[1], a[2], a[3]);
    }

    private static void directArguments() {
        says("A DIRECTION (-1000 .. 1000 each, not 0, 0) of the SECTOR at a PLACE, with a colour: how many it has;");
        Script busy = Bounds::busyCoast;
        edges("direct", busy, BoundsOfCoast::direct, new int[] {14, 5, -9, 1}, 1, -1000, 1000, 3, NONE);
        edges("direct", busy, BoundsOfCoast::direct, new int[] {14, 5, -9, 1}, 2, -1000, 1000, 3, NONE);
        edges("direct", busy, BoundsOfCoast::direct, new int[] {14, 5, -9, 1}, 3, 1, 3, 3, NONE);
        refused("direct 0, 0", NONE, busy, x -> x.direct(14, 0, 0, 1));
        refused("direct 0, 0 as the first", NONE, x -> lamp(x, 0, SECTOR, 0, 1, 1), x -> x.direct(0, 0, 0, 1));
        done("0 and not 0", 3, busy, x -> x.direct(14, 0, 1, 1));
        done("not 0 and 0", 3, busy, x -> x.direct(14, -1, 0, 1));
        for (int place : new int[] {0, 99}) {
            done("at PLACE " + place, 1, x -> lamp(x, place, SECTOR, 0, 1, 1), x -> x.direct(place, 1, 0, 1));
        }
    }

    private static void directWithoutSector() {
        says("-2: there is no SECTOR there (a MARK, nothing, another LIGHT);");
        for (int place : new int[] {10, 11, 12, 13, 15, 20, 21, 0, 99}) {
            refused("direct at PLACE " + place, -2, Bounds::busyCoast, x -> x.direct(place, 1, 1, 1));
        }
        refused("direct where a MARK was", -2, x -> {
            x.mark(5, 14);
            x.clear(5);
        }, x -> x.direct(5, 1, 1, 1));
        says("NONE: it can't be, or is like one, or there are 8.");
        for (int place : new int[] {-1, 100, LEAST, MOST}) {
            refused("direct at PLACE " + place, NONE, Bounds::busyCoast, x -> x.direct(place, 1, 1, 1));
        }
    }

    private static void directLike() {
        says("none like another one (one is like another if it leads the same way).");
        int[][] same = {{1, 0, 1000, 0}, {0, 1, 0, 1000}, {-1, 0, -1000, 0}, {0, -1, 0, -1000}, {3, 4, 600, 800}, {3, 4, 3, 4},
            {-6, 9, -2, 3}, {-500, -500, -1, -1}, {1000, -999, 1000, -999}, {10, -4, 5, -2}};
        for (int[] w : same) {
            refused("like it: " + w[2] + ", " + w[3], NONE, x -> {
                lamp(x, 0, SECTOR, 0, 1, 1);
                x.direct(0, w[0], w[1], 2);
            }, x -> x.direct(0, w[2], w[3], 3));
            done("the other way: " + -w[2] + ", " + -w[3], 2, x -> {
                lamp(x, 0, SECTOR, 0, 1, 1);
                x.direct(0, w[0], w[1], 2);
            }, x -> x.direct(0, -w[2], -w[3], 2));
        }
        int[][] near = {{1000, 999, 999, 998}, {1000, 0, 1000, 1}, {1000, 0, 1000, -1}, {0, 1000, 1, 1000}, {0, 1000, -1, 1000},
            {-1000, 0, -1000, 1}, {-1000, 0, -1000, -1}, {0, -1000, 1, -1000}, {0, -1000, -1, -1000}, {-999, -1000, -998, -999}};
        for (int[] w : near) {
            done("not quite like it: " + w[2] + ", " + w[3], 2, x -> {
                lamp(x, 0, SECTOR, 0, 1, 1);
                x.direct(0, w[0], w[1], 2);
            }, x -> x.direct(0, w[2], w[3], 2));
        }
        Script two = x -> {
            lamp(x, 0, SECTOR, 0, 1, 1);
            lamp(x, 1, SECTOR, 0, 1, 1);
            x.direct(0, 1, 1, 2);
        };
        done("another SECTOR's does not count", 1, two, x -> x.direct(1, 1, 1, 2));
        for (int[] w : new int[][] {{1, 2}, {2, 1}, {-3, 1}}) {
            refused("like any of three", NONE, x -> {
                lamp(x, 0, SECTOR, 0, 1, 1);
                x.direct(0, 1, 2, 1);
                x.direct(0, -3, 1, 2);
                x.direct(0, 2, 1, 3);
            }, x -> x.direct(0, 7 * w[0], 7 * w[1], 1));
        }
    }

    private static void directFull() {
        says("A SECTOR has DIRECTIONS (dx, dy), each with a colour, 8 at most,");
        LightList x = new LightList();
        lamp(x, 0, SECTOR, 0, 1, 1);
        for (int i = 1; i <= 8; i++) {
            due("direction " + i, x.direct(0, i, 9, 1), i);
            due("it has " + i, x.of(0, 7), i);
        }
        Script full = y -> {
            lamp(y, 0, SECTOR, 0, 1, 1);
            lamp(y, 1, SECTOR, 0, 1, 1);
            for (int i = 1; i <= 8; i++) y.direct(0, i, 9, 1 + i % 3);
        };
        refused("the 9th", NONE, full, y -> y.direct(0, 9, 9, 1));
        refused("the 9th, ahead of all", NONE, full, y -> y.direct(0, 1, 0, 1));
        refused("the 9th, behind all", NONE, full, y -> y.direct(0, 1, -1, 1));
        done("another SECTOR's first", 1, full, y -> y.direct(1, 9, 9, 1));
        due("one is undone", x.undo(1), 1);
        due("there is room for one", x.direct(0, 9, -9, 1), 8);
        due("for one alone", x.direct(0, 10, -9, 1), NONE);
    }

    private static int shown(LightList x, int dx, int dy) {
        return x.at(0, 0, dx, dy);
    }

    private static Script sectorOf(int... ways) {
        return x -> {
            row(x, 10, 10);
            x.light(0, SECTOR, 0, 0, 0, 2000, 1);
            for (int i = 0; i + 2 < ways.length; i += 3) x.direct(0, ways[i], ways[i + 1], ways[i + 2]);
        };
    }

    private static void directionsRound() {
        says("They lie in order round, from (1, 0) by (0, 1) on. A ship in the direction (ship less light) d sees the colour of the last DIRECTION that is not behind d, going round from (1, 0);");
        // Just ahead of each direction the one before it rules, at it and just behind it its own.
        int[][] ways = {{1, 0}, {1, 1}, {0, 1}, {-1, 1}, {-1, 0}, {-1, -1}, {0, -1}, {1, -1}};
        for (int i = 0; i < 8; i++) {
            int[] before = ways[(i + 7) % 8];
            int[] way = ways[i];
            // Told in both orders they lie alike.
            for (int told = 0; told < 2; told++) {
                LightList x = told == 0
                    ? after(sectorOf(before[0], before[1], 2, way[0], way[1], 3))
                    : after(sectorOf(way[0], way[1], 3, before[0], before[1], 2));
                int far = 900;
                int sideX = way[1];
                int sideY = -way[0];
                due("at " + way[0] + ", " + way[1], shown(x, way[0], way[1]), 3);
                due("far out at it", shown(x, far * way[0], far * way[1]), 3);
                due("just ahead of it", shown(x, far * way[0] + sideX, far * way[1] + sideY), 2);
                due("just behind it", shown(x, far * way[0] - sideX, far * way[1] - sideY), 3);
            }
        }
        LightList x = after(sectorOf(501, 500, 3, 500, 499, 2));
        due("just ahead of two that are nearly alike", shown(x, 499, 498), 3);
        due("at the former", shown(x, 1000, 998), 2);
        due("between them", shown(x, 1001, 999), 2);
        due("at the latter", shown(x, 1002, 1000), 3);
    }

    private static void directionsWrapRound() {
        says("if there is none ahead or at d, of the last of all; without any, or at the light itself, its own colour.");
        LightList none = after(sectorOf());
        for (int[] d : new int[][] {{0, 0}, {1, 0}, {-5, 7}, {0, -1}}) due("without any", shown(none, d[0], d[1]), 1);
        for (int[] w : new int[][] {{1, 0}, {0, 1}, {-1, 0}, {0, -1}, {1, -1}, {1000, -1}, {1000, 1}}) {
            LightList one = after(sectorOf(w[0], w[1], 3));
            for (int[] d : new int[][] {{1, 0}, {900, 1}, {900, -1}, {0, 1}, {-1, 0}, {0, -1}, {5, 5}, {-5, -5}}) {
                due("one direction rules all round", shown(one, d[0], d[1]), 3);
            }
            due("but at the light itself", shown(one, 0, 0), 1);
        }
        LightList x = after(sectorOf(0, 1, 2, 1000, -1, 3));
        due("from (1, 0) to the first one: the last of all", shown(x, 1, 0), 3);
        due("just ahead of the first one", shown(x, 1, 1000), 3);
        due("at the first one", shown(x, 0, 7), 2);
        due("just ahead of the last one", shown(x, 999, -1), 2);
        due("at the last one", shown(x, 1000, -1), 3);
        due("behind the last one", shown(x, 1001, -1), 3);
        LightList y = after(sectorOf(1, 0, 2, 1000, -1, 3));
        due("one at (1, 0) itself", shown(y, 1, 0), 2);
        due("just behind it", shown(y, 1000, 1), 2);
        due("just ahead of it", shown(y, 1001, -1), 3);
        LightList z = after(sectorOf(1000, 1, 2, 0, 1, 3));
        due("none ahead or at (1, 0)", shown(z, 1, 0), 3);
        due("none ahead or at what comes before the first", shown(z, 1001, 1), 3);
        due("at the first", shown(z, 1000, 1), 2);
        due("no more than the own colour at the light", shown(z, 0, 0), 1);
    }
}
