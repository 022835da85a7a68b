/** The boundary cases of promises 10 to 16: HAZE, NOTICES, DAYS, and a LIGHT as it is. */
final class BoundsOfDays extends Bounds {
    private BoundsOfDays() { }

    static void all() {
        hazes();
        hundredths();
        reaches();
        seeing();
        colours();
        noticeArguments();
        noticeDays();
        noticesOfChange();
        noticesFull();
        holdingDays();
        orderOfNotices();
        outIsOut();
        days();
        lits();
        ofs();
        spans();
        atArguments();
        atTenths();
    }

    private static int hazeBits(int hundredths) {
        int low = 0;
        int high = Float.floatToIntBits(1f);
        while (low < high) {
            int middle = (low + high) >>> 1;
            if ((int) (Float.intBitsToFloat(middle) * 100f) >= hundredths) high = middle;
            else low = middle + 1;
        }
        return low;
    }

    // ---- 10 ----

    private static void hazes() {
        says("HAZE is H hundredths, 0 at first: of a float h that is told, h * 100 (as a float), cut; 0 of one that is no number, below 0, and 100 of one above 1.");
        due("at first", new LightList().about(7), 0);
        int[] none = {0x7F800001, 0x7FC00000, 0x7FFFFFFF, 0xFF800001, 0xFFC00000, 0xFFFFFFFF};
        int[] below = {0x80000000, 0x80000001, 0x80800000, 0xBF800000, 0xFF7FFFFF, 0xFF800000};
        int[] small = {0, 1, 0x007FFFFF, 0x00800000, 0x38000000, 0x3C23D709};
        int[] above = {0x3F800000, 0x3F800001, 0x40000000, 0x7F7FFFFF, 0x7F800000};
        for (int[] bits : new int[][] {none, below, small}) {
            for (int b : bits) hazeIs(b, 0);
        }
        for (int b : above) hazeIs(b, 100);
        hazeIs(0x3F7FFFFF, 99);
        hazeIs(0x3C23D70A, 1);
        says("HAZE, as a float of these bits: H.");
        // As doubles these would be cut to one less.
        hazeIs(Float.floatToIntBits(0.29f), 29);
        hazeIs(Float.floatToIntBits(0.57f), 57);
        hazeIs(Float.floatToIntBits(0.58f), 58);
        hazeIs(Float.floatToIntBits(0.5f), 50);
    }

    private static void hazeIs(int bits, int want) {
        Script before = x -> x.haze(Float.floatToIntBits(0.75f));
        String what = "haze of bits " + Integer.toHexString(bits);
        done(what, want, before, x -> x.haze(bits));
        LightList x = after(before, y -> y.haze(bits));
        due(what + " is H", x.about(7), want);
        done(what + " twice", want, y -> y.haze(bits), y -> y.haze(bits));
    }

    private static void hundredths() {
        says("h * 100 (as a float), cut;");
        for (int h = 1; h <= 100; h++) {
            int bits = hazeBits(h);
            LightList x = new LightList();
            due("the least float of " + h, x.haze(bits), h);
            due("the float before it", x.haze(bits - 1), h - 1);
            due("the float behind it", x.haze(bits + 1), h);
        }
    }

    // ---- THE REACH, and what a ship sees ----

    private static void reaches() {
        says("THE REACH now is reach * (100 - H) / 100, cut.");
        int[][] told = { // reach, H, THE REACH now
            {1, 0, 1}, {1, 1, 0}, {1, 100, 0}, {2, 49, 1}, {2, 50, 1}, {2, 51, 0}, {99, 99, 0}, {100, 99, 1}, {101, 99, 1},
            {199, 50, 99}, {199, 99, 1}, {200, 99, 2}, {1999, 1, 1979}, {2000, 0, 2000}, {2000, 1, 1980}, {2000, 99, 20}, {2000, 100, 0},
        };
        for (int[] t : told) {
            LightList x = new LightList();
            x.light(0, FIXED, 0, 0, 0, t[0], 1);
            due("H", x.haze(hazeBits(t[1])), t[1]);
            due("reach " + t[0] + " in HAZE " + t[1], x.of(0, 4), t[2]);
            due("seen at THE REACH", x.at(0, 0, t[2], 0), 1);
            due("seen at THE REACH to the south", x.at(0, 0, 0, -t[2]), 1);
            if (t[2] < 2000) due("not seen beyond it", x.at(0, 0, -t[2] - 1, 0), 0);
            due("not seen beside that", x.at(0, 0, t[2], 1), 0);
        }
    }

    private static void seeing() {
        says("A ship SEES a LIGHT if it is LIT, and the square of its distance is not above that of THE REACH now.");
        int[][] triangles = {{3, 4, 5}, {7, 24, 25}, {20, 21, 29}, {600, 800, 1000}, {1200, 1600, 2000}};
        for (int[] t : triangles) {
            for (int turn = 0; turn < 8; turn++) {
                int dx = (turn & 1) == 0 ? t[0] : -t[0];
                int dy = (turn & 2) == 0 ? t[1] : -t[1];
                int x = (turn & 4) == 0 ? dx : dy;
                int y = (turn & 4) == 0 ? dy : dx;
                LightList office = new LightList();
                office.light(0, FIXED, 0, 0, 0, t[2], 1);
                office.light(1, FIXED, 0, 0, 0, t[2] - 1, 1);
                due("at the edge", office.at(0, 0, x, y), 1);
                due("a reach of one less", office.at(1, 0, x, y), 0);
                due("a step farther", office.at(0, 0, x + Integer.signum(x), y), 0);
                due("a step nearer", office.at(0, 0, x - Integer.signum(x), y), 1);
            }
        }
        LightList out = after(x -> lamp(x, 0, FIXED, 0), x -> x.notice(0, OUT, 0, 0, 0, NONE, 0));
        due("one that is OUT, at the light itself", out.at(0, 0, 0, 0), 0);
        LightList far = after(x -> x.light(0, FIXED, 0, -1000, -1000, 2000, 3), x -> x.light(1, FIXED, 0, 1000, 1000, 2000, 3));
        due("as far as can be", far.at(0, 0, 2000, 2000), 0);
        due("as far as can be, the other way", far.at(1, 0, -2000, -2000), 0);
    }

    private static void colours() {
        says("THE COLOUR of a LIGHT to a ship: its own; a SECTOR's by direction; a SISTER's own and 4 times n.");
        for (int colour = 1; colour <= 3; colour++) {
            for (int n = 1; n <= 3; n++) {
                LightList x = new LightList();
                row(x, 5, 5);
                x.light(0, SISTER, n, 0, 0, 9, colour);
                row(x, 5, 5);
                x.light(1, SECTOR, 0, 0, 0, 9, colour);
                x.direct(1, 1, 0, n);
                due("a SISTER", x.at(0, 0, 9, 0), colour + 4 * n);
                due("a SECTOR", x.at(1, 0, 9, 0), n);
                due("a SECTOR at the light", x.at(1, 0, 0, 0), colour);
                due("a SECTOR in the dark", x.at(1, 5, 9, 0), 0);
            }
        }
    }

    // ---- 11 ----

    private static long notice(LightList x, int[] a) {
        return x.notice(a[0], a[1], a[2], a[3], a[4], a[5], a[6]);
    }

    private static void noticeArguments() {
        says("A NOTICE of a LIGHT: what 0 OUT, 1 CHANGED (by THE ROW), 2 MOVED to x, y (else 0, 0);");
        Script busy = Bounds::busyCoast;
        ManyCall call = BoundsOfDays::notice;
        edges("OUT", busy, call, new int[] {0, OUT, 0, 0, 5, 8, 2}, 0, 0, 5, 3, NONE);
        edges("CHANGED", busy, call, new int[] {1, CHANGED, 0, 0, 5, 8, 2}, 0, 1, 5, 3, NONE);
        edges("MOVED", busy, call, new int[] {0, MOVED, 7, 7, 5, 8, 2}, 0, 0, 5, 3, NONE);
        edges("what", busy, call, new int[] {1, OUT, 0, 0, 5, 8, 2}, 1, 0, 2, 3, NONE);
        for (int number = 2; number <= 3; number++) {
            edges("OUT", busy, call, new int[] {1, OUT, 0, 0, 5, 8, 2}, number, 0, 0, 3, NONE);
            edges("CHANGED", busy, call, new int[] {1, CHANGED, 0, 0, 5, 8, 2}, number, 0, 0, 3, NONE);
            edges("MOVED", busy, call, new int[] {1, MOVED, 7, 7, 5, 8, 2}, number, -1000, 1000, 3, NONE);
        }
        for (int what : new int[] {-1, 3}) {
            refused("what " + what, NONE, NOTHING, x -> x.notice(0, what, 0, 0, 0, NONE, 0));
        }
        refused("without a LIGHT", NONE, NOTHING, x -> x.notice(0, OUT, 0, 0, 0, NONE, 0));
        LightList x = after(y -> lamp(y, 0, FIXED, 0));
        for (int[] p : new int[][] {{1000, -1000}, {-1000, 1000}, {0, 0}}) {
            x.notice(0, MOVED, p[0], p[1], 0, NONE, 0);
            due("MOVED to x", x.of(0, 2), p[0]);
            due("MOVED to y", x.of(0, 3), p[1]);
        }
    }

    private static void noticeDays() {
        says("from a day on, until another one above it (NONE: for good), known from a day (all 0 .. 10000): its number; NONE, doing nothing: it can't be, there are 100.");
        Script busy = Bounds::busyCoast;
        ManyCall call = BoundsOfDays::notice;
        for (int what = OUT; what <= MOVED; what++) {
            edges("from, for good", busy, call, new int[] {1, what, 0, 0, 5, NONE, 2}, 4, 0, 10000, 3, NONE);
            edges("from, until 10000", busy, call, new int[] {1, what, 0, 0, 5, 10000, 2}, 4, 0, 9999, 3, NONE);
            edges("known", busy, call, new int[] {1, what, 0, 0, 5, 8, 2}, 6, 0, 10000, 3, NONE);
            for (int from : new int[] {0, 1, 5000, 9999}) {
                for (int until : new int[] {from + 1, 10000, NONE}) {
                    int[] a = {1, what, 0, 0, from, until, 0};
                    done("from " + from + " until " + until, 3, busy, x -> notice(x, a));
                }
                for (int until : new int[] {from, from - 1, 0, -2, 10001, LEAST, MOST}) {
                    // -1 is NONE: for good.
                    if (until == NONE) continue;
                    int[] a = {1, what, 0, 0, from, until, 0};
                    refused("from " + from + " until " + until, NONE, busy, x -> notice(x, a));
                }
            }
            for (int until : new int[] {10000, 10001, 9999, 0, -2}) {
                int[] a = {1, what, 0, 0, 10000, until, 0};
                refused("from 10000 until " + until, NONE, busy, x -> notice(x, a));
            }
        }
    }

    private static void noticesOfChange() {
        says("CHANGED (THE ROW is its CHARACTER now, as a FLASH has it: of any KIND but FIXED; the KIND stays);");
        Script lamps = x -> {
            lamp(x, 0, FIXED, 0);
            flash(x, 1, 10, 20);
            lamp(x, 2, GROUP, 2, 5, 6, 7);
            lamp(x, 3, MORSE, 5, 4, 40);
            lamp(x, 4, SECTOR, 0, 10, 30);
            lamp(x, 5, SISTER, 2, 8, 9);
        };
        for (int kind = FIXED; kind <= SISTER; kind++) {
            int light = kind;
            for (int length : new int[] {0, 1, 2, 3, 4, 5, 22, 23, 24}) {
                int[] numbers = new int[length];
                for (int i = 0; i < length; i++) numbers[i] = 40 + i % 5;
                Script before = x -> {
                    lamps.on(x);
                    row(x, numbers);
                };
                String what = "KIND " + kind + " by " + length + " numbers";
                if (kind == FIXED || length < 2 || length % 2 == 1) {
                    refused(what, NONE, before, x -> x.notice(light, CHANGED, 0, 0, 0, NONE, 0));
                    continue;
                }
                done(what, 0, before, x -> x.notice(light, CHANGED, 0, 0, 0, NONE, 0));
                LightList x = after(before);
                x.notice(light, CHANGED, 0, 0, 0, NONE, 0);
                spansAre(what, x, light, numbers);
                due("the KIND stays", x.of(light, 5), kind);
                due("its PLACE holds the KIND", x.holds(light), kind + 1);
                due("another one is as it was", x.of(light == 1 ? 2 : 1, 0), light == 1 ? 5 + 6 + 5 + 7 : 30);
                due("a tenth of the new one", x.at(light, 39, 0, 0), kind == SISTER ? 9 : 1);
                due("the next one is dark", x.at(light, 40, 0, 0), kind == SISTER ? 8 : 0);
            }
        }
        LightList fixed = after(lamps);
        due("a FIXED one can be OUT", fixed.notice(0, OUT, 0, 0, 0, NONE, 0), 0);
        due("and MOVED", fixed.notice(0, MOVED, 5, 5, 0, NONE, 0), 1);
    }

    private static void noticesFull() {
        says("NOTICES, 100 at most, each of a LIGHT,");
        Script full = x -> {
            flash(x, 0, 10, 20);
            for (int i = 0; i < 100; i++) x.notice(0, MOVED, i, 0, i, NONE, 0);
        };
        LightList x = after(y -> flash(y, 0, 10, 20));
        for (int i = 0; i < 100; i++) due("notice " + i, x.notice(0, MOVED, i, 0, i, NONE, 0), i);
        refused("the 101st", NONE, full, y -> y.notice(0, MOVED, 500, 0, 0, NONE, 0));
        refused("the 101st, OUT", NONE, full, y -> y.notice(0, OUT, 0, 0, 0, NONE, 0));
        refused("the 101st, CHANGED", NONE, y -> {
            full.on(y);
            row(y, 4, 5);
        }, y -> y.notice(0, CHANGED, 0, 0, 0, NONE, 0));
        x.days(99, 0);
        due("all of them count", x.of(0, 2), 99);
        due("two are undone", x.undo(2), 2);
        due("there is room for one", x.notice(0, OUT, 0, 0, 0, NONE, 0), 99);
        due("for one alone", x.notice(0, OUT, 0, 0, 0, NONE, 0), NONE);
    }

    // ---- 3 of the terms ----

    private static void holdingDays() {
        says("from a day on (up to, not at, another one, if it is TEMPORARY), known from a day on: OUT;");
        int[][] told = {{0, NONE}, {0, 1}, {0, 10000}, {1, 2}, {5, NONE}, {5, 6}, {5, 8}, {9999, 10000}, {9999, NONE}, {10000, NONE}};
        for (int[] t : told) {
            for (int known : new int[] {0, 1, 7, 10000}) holdingDays(t[0], t[1], known);
        }
    }

    private static void holdingDays(int from, int until, int known) {
        Script before = x -> {
            flash(x, 0, 1, 1);
            flash(x, 1, 1, 1);
            flash(x, 2, 1, 1);
            flash(x, 3, 1, 1);
            x.notice(0, OUT, 0, 0, from, until, known);
            x.notice(1, MOVED, 9, -9, from, until, known);
            row(x, 7, 8);
            x.notice(2, CHANGED, 0, 0, from, until, known);
        };
        for (int day : new int[] {from - 1, from, from + 1, until - 1, until, until + 1, 10000}) {
            for (int on : new int[] {known - 1, known, known + 1, 10000}) {
                if (day < 0 || day > 10000 || on < 0 || on > 10000) continue;
                LightList x = after(before);
                x.days(day, on);
                boolean holds = on >= known && day >= from && (until == NONE || day < until);
                String what = "from " + from + " until " + until + " known " + known + ", on " + day + " as known on " + on;
                due("OUT " + what, x.lit(0), holds ? 0 : 1);
                due("MOVED " + what, x.of(1, 2), holds ? 9 : 0);
                due("MOVED " + what, x.of(1, 3), holds ? -9 : 0);
                due("CHANGED " + what, x.of(2, 0), holds ? 15 : 2);
                due("CHANGED " + what, x.spanOf(2, 1), holds ? 8 : 1);
                due("one without a NOTICE", x.lit(3) + 10 * x.of(3, 2) + 100 * x.of(3, 0), 201);
            }
        }
    }

    private static void orderOfNotices() {
        says("A LIGHT is as it was told, by those of its NOTICES that are known on KNOWN and hold on DAY, in the order of their from, of like ones as they came");
        for (int what : new int[] {CHANGED, MOVED}) {
            // Each: from, until, known, in the order in which they are told; then days with the number that counts.
            counts(what, new int[][] {{5, NONE, 0}, {4, NONE, 0}}, new int[][] {{3, 0, -1}, {4, 0, 1}, {5, 0, 0}, {6, 0, 0}});
            counts(what, new int[][] {{4, NONE, 0}, {5, NONE, 0}}, new int[][] {{3, 0, -1}, {4, 0, 0}, {5, 0, 1}});
            counts(what, new int[][] {{4, NONE, 0}, {4, NONE, 0}}, new int[][] {{3, 0, -1}, {4, 0, 1}, {9, 0, 1}});
            counts(what, new int[][] {{4, NONE, 0}, {4, 6, 0}}, new int[][] {{5, 0, 1}, {6, 0, 0}});
            counts(what, new int[][] {{4, 6, 0}, {4, NONE, 0}}, new int[][] {{5, 0, 1}, {6, 0, 1}});
            counts(what, new int[][] {{4, 9, 0}, {5, 7, 0}, {3, 8, 0}}, new int[][] {{3, 0, 2}, {4, 0, 0}, {5, 0, 1}, {6, 0, 1}, {7, 0, 0}, {8, 0, 0}, {9, 0, -1}});
            counts(what, new int[][] {{4, NONE, 0}, {5, NONE, 3}}, new int[][] {{5, 2, 0}, {5, 3, 1}, {4, 3, 0}});
            counts(what, new int[][] {{4, NONE, 2}, {4, NONE, 1}}, new int[][] {{4, 0, -1}, {4, 1, 1}, {4, 2, 1}});
            counts(what, new int[][] {{0, NONE, 0}, {0, 1, 0}, {10000, NONE, 10000}}, new int[][] {{0, 0, 1}, {1, 0, 0}, {10000, 9999, 0}, {10000, 10000, 2}, {9999, 10000, 0}});
        }
        // One office through the days, forth and back: what counted on another day is forgotten.
        LightList through = after(y -> flash(y, 0, 1, 1));
        for (int from = 1; from <= 5; from++) {
            through.notice(0, MOVED, from, 0, from, NONE, 0);
            row(through, 10 + from, 1);
            through.notice(0, CHANGED, 0, 0, from, NONE, 0);
        }
        for (int day : new int[] {0, 5, 4, 3, 1, 0, 2, 5, 1, 10000, 0}) {
            through.days(day, 0);
            due("MOVED on day " + day, through.of(0, 2), Math.min(day, 5));
            due("CHANGED on day " + day, through.spanOf(0, 0), day == 0 ? 1 : 10 + Math.min(day, 5));
        }
        says("the last CHANGED and MOVED ones count.");
        LightList x = new LightList();
        flash(x, 0, 1, 1);
        x.notice(0, MOVED, 5, 5, 2, NONE, 0);
        row(x, 3, 3);
        x.notice(0, CHANGED, 0, 0, 1, NONE, 0);
        x.notice(0, MOVED, 6, 6, 1, NONE, 0);
        row(x, 4, 4);
        x.notice(0, CHANGED, 0, 0, 1, NONE, 0);
        x.days(2, 0);
        due("the last MOVED one", x.of(0, 2), 5);
        due("the last CHANGED one", x.of(0, 0), 8);
    }

    private static void counts(int what, int[][] notices, int[][] days) {
        for (int[] d : days) {
            LightList x = after(y -> flash(y, 0, 1, 1));
            for (int i = 0; i < notices.length; i++) {
                row(x, 10 + i, 10);
                x.notice(0, what, what == MOVED ? 10 + i : 0, 0, notices[i][0], notices[i][1], notices[i][2]);
            }
            x.days(d[0], d[1]);
            String asked = "what " + what + " on " + d[0] + " as known on " + d[1];
            if (what == MOVED) due(asked, x.of(0, 2), d[2] < 0 ? 0 : 10 + d[2]);
            else due(asked, x.spanOf(0, 0), d[2] < 0 ? 1 : 10 + d[2]);
        }
    }

    private static void outIsOut() {
        says("it is LIT if none is OUT;");
        Script before = x -> {
            flash(x, 0, 1, 1);
            x.notice(0, OUT, 0, 0, 2, 5, 0);
            x.notice(0, OUT, 0, 0, 4, 7, 0);
            x.notice(0, MOVED, 0, 0, 3, NONE, 0);
            row(x, 1, 1);
            x.notice(0, CHANGED, 0, 0, 6, NONE, 0);
        };
        int[] lit = {1, 1, 0, 0, 0, 0, 0, 1, 1};
        for (int day = 0; day < lit.length; day++) {
            LightList x = after(before);
            x.days(day, 0);
            due("on day " + day, x.lit(0), lit[day]);
            due("seen on day " + day, x.at(0, 0, 0, 0), lit[day]);
        }
    }

    // ---- 12 ----

    private static void days() {
        says("All is asked for a DAY as KNOWN on another one (both 0 at first, 0 .. 10000).");
        due("DAY at first", new LightList().about(5), 0);
        due("KNOWN at first", new LightList().about(6), 0);
        says("DAY and KNOWN are these: true; false, doing nothing.");
        for (Script before : new Script[] {NOTHING, Bounds::busyCoast}) {
            for (int number = 0; number < 2; number++) {
                edges("days", before, (x, a) -> yes(x.days(a[0], a[1])), new int[] {6, 7}, number, 0, 10000, 1, 0);
            }
        }
        for (int[] d : new int[][] {{0, 10000}, {10000, 0}, {10000, 10000}, {1, 2}, {0, 0}}) {
            LightList x = after(y -> y.days(3, 4), y -> y.days(d[0], d[1]));
            due("DAY", x.about(5), d[0]);
            due("KNOWN", x.about(6), d[1]);
            due("the same again is an act too", x.days(d[0], d[1]) ? x.about(8) : 0, 3);
        }
    }

    // ---- 13, 14, 15 ----

    private static void lits() {
        says("1 if a LIGHT is LIT, else 0; NONE if there is none such.");
        LightList x = after(Bounds::busyCoast);
        due("LIT", x.lit(0), 1);
        due("OUT", x.lit(2), 0);
        due("the last one", x.lit(5), 1);
        for (int light : new int[] {-1, 6, 60, LEAST, MOST}) {
            refused("lit " + light, NONE, Bounds::busyCoast, y -> y.lit(light));
        }
        due("of none at all", new LightList().lit(0), NONE);
        LightList undone = after(y -> lamp(y, 0, FIXED, 0), y -> y.undo(1));
        due("of one that was undone", undone.lit(0), NONE);
    }

    private static void ofs() {
        says("Of a LIGHT, as it is on DAY, as KNOWN, what 0: its PERIOD, 1: how many SPANS, 2: x, 3: y, 4: THE REACH now, 5: its KIND, 6: its PLACE, 7: its DIRECTIONS. NONE if there is none such.");
        LightList x = after(Bounds::busyCoast);
        int[] changed = {32, 2, 30, 0, 75, FLASH, 11, 0};
        int[] fixed = {1, 0, 0, 0, 75, FIXED, 10, 0};
        int[] sector = {40, 2, 0, 0, 75, SECTOR, 14, 2};
        for (int what = 0; what <= 7; what++) {
            due("of a CHANGED and MOVED one " + what, x.of(1, what), changed[what]);
            due("of a FIXED one " + what, x.of(0, what), fixed[what]);
            due("of a SECTOR " + what, x.of(4, what), sector[what]);
        }
        for (int what : new int[] {-1, 8, LEAST, MOST}) refused("of 0 " + what, NONE, Bounds::busyCoast, y -> y.of(0, what));
        for (int light : new int[] {-1, 6, LEAST, MOST}) {
            for (int what : new int[] {-1, 0, 7, 8}) refused("of " + light, NONE, Bounds::busyCoast, y -> y.of(light, what));
        }
        for (int place : new int[] {0, 99}) due("its PLACE", after(y -> lamp(y, place, FIXED, 0)).of(0, 6), place);
    }

    private static void spans() {
        says("SPAN i of a LIGHT as it is; NONE if there is none such.");
        LightList x = after(Bounds::busyCoast);
        due("the first, as CHANGED", x.spanOf(1, 0), 11);
        due("the last, as CHANGED", x.spanOf(1, 1), 21);
        due("the last of a GROUP", x.spanOf(2, 3), 7);
        int[][] none = {{1, 2}, {1, -1}, {1, LEAST}, {1, MOST}, {2, 4}, {0, 0}, {0, 1}, {0, -1}, {6, 0}, {-1, 0}, {LEAST, 0}, {MOST, 0}};
        for (int[] n : none) refused("spanOf " + n[0] + ", " + n[1], NONE, Bounds::busyCoast, y -> y.spanOf(n[0], n[1]));
        x.days(0, 0);
        due("the first, as it was", x.spanOf(1, 0), 10);
        LightList y = after(z -> flash(z, 0, times(24, 3)), z -> row(z, 5, 6), z -> z.notice(0, CHANGED, 0, 0, 1, 2, 0));
        due("of 24 the last", y.spanOf(0, 23), 3);
        due("of 24 the 25th", y.spanOf(0, 24), NONE);
        y.days(1, 0);
        due("of 2 the last", y.spanOf(0, 1), 6);
        due("of 2 the third", y.spanOf(0, 2), NONE);
    }

    // ---- 16 ----

    private static void atArguments() {
        says("NONE: no such LIGHT, t below 0, a place beyond -2000 .. 2000.");
        Script corner = x -> x.light(0, FIXED, 0, 1000, 1000, 2000, 2);
        int[][] bad = {{-1, 0, 0, 0}, {1, 0, 0, 0}, {LEAST, 0, 0, 0}, {MOST, 0, 0, 0}, {0, -1, 0, 0}, {0, LEAST, 0, 0},
            {0, 0, 2001, 0}, {0, 0, -2001, 0}, {0, 0, 0, 2001}, {0, 0, 0, -2001}, {0, 0, LEAST, 0}, {0, 0, MOST, 0},
            {0, 0, 0, LEAST}, {0, 0, 0, MOST}, {0, -1, 2001, 2001}};
        for (int[] b : bad) refused("at " + java.util.Arrays.toString(b), NONE, corner, x -> x.at(b[0], b[1], b[2], b[3]));
        LightList x = after(corner);
        due("t 0", x.at(0, 0, 0, 1000), 2);
        due("t greatest", x.at(0, MOST, 0, 1000), 2);
        due("x 2000", x.at(0, 0, 2000, 1000), 2);
        due("y 2000", x.at(0, 0, 1000, 2000), 2);
        due("both 2000", x.at(0, 0, 2000, 2000), 2);
        due("x -2000", x.at(0, 0, -2000, 1000), 0);
        due("y -2000", x.at(0, 0, 1000, -2000), 0);
        LightList y = after(z -> z.light(0, FIXED, 0, -1000, -1000, 2000, 2));
        due("both -2000", y.at(0, 0, -2000, -2000), 2);
        due("of one that is OUT a bad t", after(corner, z -> z.notice(0, OUT, 0, 0, 0, NONE, 0)).at(0, -1, 0, 0), NONE);
    }

    private static void atTenths() {
        says("What a ship at x, y has of a LIGHT at a tenth t (0 is the beginning of its first SPAN): 0 it does not SEE it, or it is dark (a SISTER: 4 times n then); else THE COLOUR.");
        LightList x = new LightList();
        flash(x, 0, 600, 600);
        flash(x, 1, 1, 1);
        flash(x, 2, 3, 1, 1, 4);
        lamp(x, 3, SISTER, 3, 3, 1, 1, 4);
        int[][] long1200 = {{0, 1}, {599, 1}, {600, 0}, {1199, 0}, {1200, 1}, {1799, 1}, {1800, 0}, {2399, 0}, {2400, 1}, {MOST - 847, 1}, {MOST - 848, 0}, {MOST, 0}};
        for (int[] t : long1200) due("600 600 at " + t[0], x.at(0, t[0], 0, 0), t[1]);
        for (int t : new int[] {0, 1, 2, 3, 1000000, 1000001, MOST - 1, MOST}) due("1 1 at " + t, x.at(1, t, 0, 0), 1 - t % 2);
        int[] shown = {1, 1, 1, 0, 1, 0, 0, 0, 0, 1, 1, 1, 0, 1, 0};
        for (int t = 0; t < shown.length; t++) {
            due("3 1 1 4 at " + t, x.at(2, t, 0, 0), shown[t]);
            due("a SISTER at " + t, x.at(3, t, 0, 0), 12 + shown[t]);
            due("a SISTER that is not seen at " + t, x.at(3, t, 101, 0), 0);
        }
        x.notice(3, OUT, 0, 0, 0, NONE, 0);
        for (int t : new int[] {0, 3}) due("a SISTER that is OUT at " + t, x.at(3, t, 0, 0), 0);
    }
}
