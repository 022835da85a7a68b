/** The boundary cases of promises 26 to 31: THE WATER, OFFERS, what is APART, and GIVING. */
final class BoundsOfGiving extends Bounds {
    private BoundsOfGiving() { }

    static void all() {
        waters();
        offerRows();
        offersFull();
        apartArguments();
        apartByError();
        apartByTwoPeriods();
        apartFixed();
        checkArguments();
        checkPairs();
        checkAtTheWater();
        giveArguments();
        giveApart();
        giveFromLights();
        giveLeastSum();
        giveFirstNumbers();
        givenNumbers();
        givenStays();
    }

    // ---- 26, 27 ----

    private static void waters() {
        says("THE WATER is at x, y (-1000 .. 1000): true; false, doing nothing.");
        for (Script before : new Script[] {NOTHING, Bounds::busyCoast}) {
            for (int number = 0; number < 2; number++) {
                edges("water", before, (x, a) -> yes(x.water(a[0], a[1])), new int[] {5, -5}, number, -1000, 1000, 1, 0);
            }
        }
        for (int[] p : new int[][] {{-1000, 1000}, {1000, -1000}, {0, 0}, {3, -4}}) {
            LightList x = after(Bounds::busyCoast, y -> y.water(p[0], p[1]));
            due("its x", x.about(9), p[0]);
            due("its y", x.about(10), p[1]);
        }
    }

    private static void offerRows() {
        says("THE ROW is an OFFER: its number; NONE, doing nothing: it is no CHARACTER, there are 12.");
        for (int length = 0; length <= 24; length++) {
            int[] numbers = times(length, 50);
            Script before = x -> row(x, numbers);
            if (length >= 2 && length % 2 == 0) done("offer of " + length, 0, before, x -> x.offer());
            else refused("offer of " + length, NONE, before, x -> x.offer());
        }
        refused("offer of 1201", NONE, x -> row(x, 600, 599, 1, 1), x -> x.offer());
        done("offer of 1200", 0, x -> row(x, 600, 598, 1, 1), x -> x.offer());
        LightList x = after(y -> offered(y, 600, 598, 1, 1));
        due("its PERIOD", x.give(1, 0), 1200);
    }

    private static void offersFull() {
        says("THE WATER is a place; OFFERS are CHARACTERS, 12 at most, as of FLASH ones.");
        LightList x = new LightList();
        for (int i = 0; i < 12; i++) due("offer " + i, offered(x, 10 + i, 20), i);
        Script full = y -> {
            for (int i = 0; i < 12; i++) offered(y, 10 + i, 20);
        };
        refused("the 13th of nothing", NONE, full, y -> y.offer());
        refused("the 13th", NONE, y -> {
            full.on(y);
            row(y, 1, 1);
        }, y -> y.offer());
        due("all are there", x.give(6, 0), 30 + 31 + 32 + 33 + 34 + 35);
        due("one is undone", x.undo(1), 1);
        due("there is room for one", offered(x, 1, 1), 11);
        due("for one alone", offered(x, 1, 1), NONE);
        due("the last one counts", x.give(1, 0), 2);
        due("by its number", x.given(0), 11);
    }

    // ---- 28 ----

    private static void apartArguments() {
        says("1 if two LIGHTS are APART by an ERROR (0 .. 50), else 0; NONE if one is none, or both are the same, or the ERROR can't be.");
        Script busy = Bounds::busyCoast;
        int[][] none = {{-1, 0, 0}, {0, -1, 0}, {6, 0, 0}, {0, 6, 0}, {LEAST, 0, 0}, {0, LEAST, 0}, {MOST, 0, 0}, {0, MOST, 0},
            {-1, -1, 0}, {6, 6, 0}, {0, 0, 0}, {3, 3, 0}, {5, 5, 50}, {0, 1, -1}, {0, 1, 51}, {0, 1, LEAST}, {0, 1, MOST}};
        for (int[] n : none) refused("apart " + java.util.Arrays.toString(n), NONE, busy, x -> x.apart(n[0], n[1], n[2]));
        LightList x = after(busy);
        for (int error : new int[] {0, 50}) {
            due("the first and the last", x.apart(0, 5, error), 1);
            due("the last and the first", x.apart(5, 0, error), 1);
        }
        due("no LIGHTS", new LightList().apart(0, 1, 0), NONE);
    }

    private static void apartIs(String what, int want, int error, int[] a, int[] b) {
        LightList x = new LightList();
        if (a.length == 0) lamp(x, 0, FIXED, 0); else flash(x, 0, a);
        if (b.length == 0) lamp(x, 1, FIXED, 0); else flash(x, 1, b);
        due(what + " by " + error, x.apart(0, 1, error), want);
        due(what + " by " + error + ", the other first", x.apart(1, 0, error), want);
    }

    private static void apartByError() {
        says("Two LIGHTS are APART by an ERROR if the one's TWO PERIODS do not FIT the other one, nor the other's the one");
        for (int e : new int[] {0, 1, 2, 49, 50}) {
            for (int off : new int[] {0, e - 1, e, e + 1}) {
                int want = Math.abs(off) <= e ? 0 : 1;
                apartIs("light longer by " + off, want, e, new int[] {100, 200}, new int[] {100 + off, 200});
                apartIs("dark longer by " + off, want, e, new int[] {100, 200}, new int[] {100, 200 + off});
                apartIs("both by " + off, want, e, new int[] {100, 200}, new int[] {100 + off, 200 - off});
                apartIs("the last SPAN by " + off, want, e, new int[] {100, 200, 300, 400}, new int[] {100, 200, 300, 400 + off});
                apartIs("from another SPAN on by " + off, want, e, new int[] {100, 200, 300, 400}, new int[] {300, 400 - off, 100 + off, 200});
            }
        }
        apartIs("light and dark exchanged", 1, 9, new int[] {10, 20}, new int[] {20, 10});
        apartIs("light and dark exchanged", 0, 10, new int[] {10, 20}, new int[] {20, 10});
    }

    private static void apartByTwoPeriods() {
        says("A LIGHT's TWO PERIODS: all its SPANS twice, as a row that begins light, nothing CUT.");
        apartIs("twice in the other", 0, 0, new int[] {1, 1}, new int[] {1, 1, 1, 1, 1, 9});
        apartIs("once and a half in the other", 1, 0, new int[] {1, 1}, new int[] {1, 1, 1, 9});
        apartIs("once in the other, over its end", 1, 0, new int[] {1, 1}, new int[] {1, 9, 1, 8});
        apartIs("twice but for the last SPAN", 1, 0, new int[] {1, 1, 1, 2}, new int[] {1, 1, 1, 2, 1, 1, 1, 9});
        apartIs("twice to the last SPAN", 0, 0, new int[] {1, 1, 1, 2}, new int[] {1, 1, 1, 2, 1, 1, 1, 2, 1, 9});
        apartIs("twice, from the dark on", 1, 0, new int[] {1, 1}, new int[] {2, 1, 1, 1, 1, 3});
        apartIs("twice, from a later light one on", 0, 0, new int[] {1, 1}, new int[] {7, 9, 1, 1, 1, 1});
        apartIs("twice, going round", 0, 0, new int[] {1, 1}, new int[] {1, 1, 7, 9, 1, 1});
        apartIs("the same told longer", 0, 0, new int[] {3, 4}, new int[] {3, 4, 3, 4, 3, 4});
        apartIs("a longer last one is not CUT", 1, 0, new int[] {3, 4}, new int[] {3, 4, 3, 5});
        apartIs("a longer first one is not CUT", 1, 0, new int[] {3, 4}, new int[] {5, 4, 3, 4});
        int[] most = new int[24];
        int[] turned = new int[24];
        for (int i = 0; i < 24; i++) {
            most[i] = 10 + i;
            turned[(i + 22) % 24] = 10 + i;
        }
        apartIs("24 SPANS, turned by two", 0, 0, most, turned);
        int[] off = most.clone();
        off[23] += 3;
        apartIs("24 SPANS, the last one off", 1, 2, most, off);
        apartIs("24 SPANS, the last one off", 0, 3, most, off);
        LightList x = after(y -> flash(y, 0, 10, 20), y -> lamp(y, 1, GROUP, 2, 10, 20, 20), y -> lamp(y, 2, MORSE, 2, 10, 20));
        due("a GROUP that is a FLASH", x.apart(0, 1, 0), 0);
        due("a MORSE that is a FLASH", x.apart(2, 0, 0), 0);
        x.notice(0, OUT, 0, 0, 0, 1, 0);
        due("one that is OUT", x.apart(0, 1, 0), 0);
        row(x, 90, 90);
        x.notice(0, CHANGED, 0, 0, 1, 2, 0);
        x.days(1, 0);
        due("one as it is", x.apart(0, 1, 50), 1);
        x.days(2, 0);
        due("one as it is again", x.apart(0, 1, 0), 0);
    }

    private static void apartFixed() {
        says("(a FIXED one: APART from all but FIXED ones).");
        for (int e : new int[] {0, 50}) {
            apartIs("two FIXED ones", 0, e, new int[] {}, new int[] {});
            apartIs("a FIXED one and another", 1, e, new int[] {}, new int[] {1, 1});
            apartIs("a FIXED one and a long one", 1, e, new int[] {}, new int[] {600, 600});
            LightList x = after(Bounds::busyCoast);
            for (int light = 1; light <= 5; light++) due("a FIXED one and KIND " + light, x.apart(0, light, e), 1);
        }
    }

    // ---- 29 ----

    private static void checkArguments() {
        says("Of the LIGHTS that a ship at THE WATER SEES the first pair (by the lesser number, then the greater) that is not APART by an ERROR: 64 times the lesser and the greater; -2 if all are; NONE if the ERROR can't be.");
        for (int error : new int[] {-1, 51, LEAST, MOST}) {
            refused("check " + error, NONE, Bounds::busyCoast, x -> x.check(error));
            due("check " + error + " of no LIGHTS", new LightList().check(error), NONE);
        }
        for (int error : new int[] {0, 50}) {
            due("no LIGHTS", new LightList().check(error), -2);
            due("one LIGHT", after(x -> flash(x, 0, 1, 1)).check(error), -2);
            due("two that are not APART", after(x -> flash(x, 0, 1, 1), x -> flash(x, 1, 1, 1)).check(error), 1);
        }
        due("by 49", after(x -> flash(x, 0, 1, 1), x -> flash(x, 1, 51, 1)).check(49), -2);
        due("by 50", after(x -> flash(x, 0, 1, 1), x -> flash(x, 1, 51, 1)).check(50), 1);
    }

    private static int checked(int... periods) {
        LightList x = new LightList();
        for (int i = 0; i < periods.length; i++) flash(x, i, 10, periods[i]);
        return x.check(0);
    }

    private static void checkPairs() {
        due("0 and 3 come before 1 and 2", checked(20, 30, 30, 20), 3);
        due("1 and 2 come before 1 and 3", checked(20, 30, 30, 30), 64 + 2);
        due("1 and 3 come before 2 and 4", checked(20, 30, 40, 30, 40), 64 + 3);
        due("none", checked(20, 30, 40, 50, 60), -2);
        LightList x = new LightList();
        for (int i = 0; i < 60; i++) flash(x, i, 10, i < 59 ? 20 + i : 20 + 58);
        due("58 and 59", x.check(0), 64 * 58 + 59);
        due("0 and 1", x.check(1), 1);
        LightList y = new LightList();
        for (int i = 0; i < 60; i++) flash(y, i, 10, i < 59 ? 20 + i : 20);
        due("0 and 59", y.check(0), 59);
        LightList z = new LightList();
        for (int i = 0; i < 60; i++) flash(z, i, 10, 20 + i);
        due("none of 60", z.check(0), -2);
        LightList undone = after(w -> flash(w, 0, 10, 20), w -> flash(w, 1, 10, 20), w -> w.undo(1));
        due("one that was undone", undone.check(0), -2);
    }

    private static void checkAtTheWater() {
        says("Of the LIGHTS that a ship at THE WATER SEES the first pair");
        for (int far = 99; far <= 102; far++) {
            LightList x = after(y -> flash(y, 0, 10, 20), y -> flash(y, 1, 10, 20));
            x.water(far, 0);
            due("both from " + far, x.check(0), far <= 100 ? 1 : -2);
            x.water(0, -far);
            due("both from below " + far, x.check(0), far <= 100 ? 1 : -2);
        }
        LightList x = new LightList();
        for (int i = 0; i < 3; i++) flash(x, i, 10, 20);
        x.notice(0, OUT, 0, 0, 1, NONE, 0);
        x.notice(1, MOVED, 101, 0, 2, NONE, 0);
        due("three", x.check(0), 1);
        x.days(1, 0);
        due("two", x.check(0), 64 + 2);
        x.days(2, 0);
        due("one", x.check(0), -2);
        x.water(1, 0);
        due("two again", x.check(0), 64 + 2);
        x.haze(Float.floatToIntBits(0.5f));
        due("none in the HAZE", x.check(0), -2);
    }

    // ---- 30 ----

    private static void giveArguments() {
        says("GIVING n (1 .. 6) by an ERROR:");
        says("GIVING n by an ERROR: the sum of the PERIODS; -2 if there is none; NONE if n or the ERROR can't be.");
        Script six = x -> {
            for (int i = 0; i < 6; i++) offered(x, 100 * (i + 1), 100);
            x.give(2, 0);
        };
        for (int n : new int[] {0, -1, 7, 12, LEAST, MOST}) {
            for (int error : new int[] {0, 50}) refused("give " + n, NONE, six, x -> x.give(n, error));
        }
        for (int error : new int[] {-1, 51, LEAST, MOST}) {
            for (int n : new int[] {1, 6}) refused("give by " + error, NONE, six, x -> x.give(n, error));
        }
        int sum = 0;
        for (int n = 1; n <= 6; n++) {
            sum += 100 * n + 100;
            LightList x = after(six);
            int acts = x.about(8);
            due("give " + n + " by 0", x.give(n, 0), sum);
            due("give " + n + " by 50", x.give(n, 50), sum);
            due("no act", x.about(8), acts);
        }
        for (int n = 1; n <= 6; n++) {
            int wanted = n;
            refused("give " + n + " of fewer", -2, x -> {
                for (int i = 0; i < wanted - 1; i++) offered(x, 100 * (i + 1), 100);
                x.give(1, 0);
            }, x -> x.give(wanted, 0));
        }
    }

    private static void giveApart() {
        says("n OFFERS that are APART, each from each and from all LIGHTS that a ship at THE WATER SEES;");
        for (int e : new int[] {0, 1, 50}) {
            for (int off : new int[] {e, e + 1}) {
                LightList x = new LightList();
                offered(x, 100, 200);
                offered(x, 100 + off, 200);
                due("two, " + off + " from one another, by " + e, x.give(2, e), off > e ? 600 + off : -2);
                due("one by " + e, x.give(1, e), 300);
            }
        }
        // 0 and 1, 1 and 2 are too like one another, 0 and 2 are not.
        LightList x = new LightList();
        offered(x, 10, 20);
        offered(x, 12, 20);
        offered(x, 14, 20);
        due("two of three", x.give(2, 2), 30 + 34);
        due("the first", x.given(0), 0);
        due("the third", x.given(1), 2);
        refused("three of three", -2, y -> {
            offered(y, 10, 20);
            offered(y, 12, 20);
            offered(y, 14, 20);
            y.give(2, 2);
        }, y -> y.give(3, 2));
        due("three by less", x.give(3, 1), 30 + 32 + 34);
        LightList same = new LightList();
        for (int i = 0; i < 12; i++) offered(same, 10, 20);
        due("one of twelve that are the same", same.give(1, 0), 30);
        due("two of twelve that are the same", same.give(2, 0), -2);
    }

    private static void giveFromLights() {
        Script before = x -> {
            offered(x, 10, 20);
            offered(x, 30, 40);
            x.light(0, FLASH, 0, 0, 0, 5, 1);
            row(x, 11, 20);
            x.light(1, FLASH, 0, 0, 0, 5, 1);
        };
        int[][] told = {{0, 0, 0, 30}, {0, 0, 1, 70}, {3, 4, 1, 70}, {4, 4, 1, 30}, {5, 0, 1, 70}, {6, 0, 1, 30}, {0, -5, 1, 70}, {0, -6, 1, 30}};
        for (int[] t : told) {
            LightList x = after(before);
            x.water(t[0], t[1]);
            due("at " + t[0] + ", " + t[1] + " by " + t[2], x.give(1, t[2]), t[3]);
            due("two", x.give(2, t[2]), t[3] == 30 ? 100 : -2);
        }
        LightList x = after(before);
        x.notice(0, OUT, 0, 0, 1, 2, 0);
        due("before it is OUT", x.give(1, 1), 70);
        x.days(1, 0);
        due("when it is OUT", x.give(1, 1), 30);
        row(x, 30, 40);
        x.notice(0, CHANGED, 0, 0, 2, NONE, 0);
        x.days(2, 0);
        due("when it is CHANGED", x.give(2, 0), -2);
        due("one when it is CHANGED", x.give(1, 0), 30);
        LightList undone = after(y -> offered(y, 10, 20), y -> flash(y, 0, 10, 20));
        due("before it is undone", undone.give(1, 0), -2);
        undone.undo(1);
        due("when it is undone", undone.give(1, 0), 30);
        LightList full = after(y -> offered(y, 10, 20), y -> offered(y, 10, 21));
        for (int i = 0; i < 60; i++) flash(full, i, 10, i < 59 ? 30 : 20);
        due("beside 60", full.give(1, 0), 31);
        due("two beside 60", full.give(2, 0), -2);
        LightList fixed = after(y -> offered(y, 1, 1), y -> lamp(y, 0, FIXED, 0));
        due("beside a FIXED one", fixed.give(1, 50), 2);
    }

    private static void givenAre(String what, LightList x, int... numbers) {
        for (int k = 0; k < numbers.length; k++) due(what + ": given " + k, x.given(k), numbers[k]);
        due(what + ": behind the last", x.given(numbers.length), NONE);
        due(what + ": before the first", x.given(-1), NONE);
    }

    private static void giveLeastSum() {
        says("of all such ones those with the least sum of PERIODS,");
        LightList x = new LightList();
        int[] periods = {900, 300, 700, 100, 500, 1200, 200, 1100, 400, 800, 600, 1000};
        for (int i = 0; i < 12; i++) offered(x, periods[i] / 2, periods[i] / 2);
        int[][] least = {{3}, {3, 6}, {1, 3, 6}, {1, 3, 6, 8}, {1, 3, 4, 6, 8}, {1, 3, 4, 6, 8, 10}};
        int sum = 0;
        for (int n = 1; n <= 6; n++) {
            sum += 100 * n;
            due("the " + n + " shortest", x.give(n, 0), sum);
            givenAre("the " + n + " shortest", x, least[n - 1]);
        }
        // The shortest is too like the next two by 4, and with the long one it would cost more than they do.
        LightList y = new LightList();
        offered(y, 10, 10);
        offered(y, 14, 10);
        offered(y, 8, 14);
        offered(y, 200, 100);
        due("the shortest", y.give(1, 4), 20);
        givenAre("the shortest", y, 0);
        due("without the shortest", y.give(2, 4), 24 + 22);
        givenAre("without the shortest", y, 1, 2);
        due("with it, by less", y.give(2, 3), 20 + 22);
        givenAre("with it, by less", y, 0, 2);
    }

    private static void giveFirstNumbers() {
        says("of these the ones whose numbers, put in order, come first (the first number that differs is less).");
        // 0 is too like 1 and 2, 5 too like 1: 0 and 5, 1 and 2, 2 and 5 are left, with the same sum.
        LightList x = new LightList();
        offered(x, 10, 20);
        offered(x, 8, 20);
        offered(x, 12, 18);
        offered(x, 300, 300);
        offered(x, 400, 400);
        offered(x, 6, 22);
        due("three with the same sum", x.give(2, 2), 58);
        givenAre("the first number is less", x, 0, 5);
        LightList y = new LightList();
        for (int i = 0; i < 12; i++) offered(y, 10 + i, 100 - i);
        for (int n = 1; n <= 6; n++) {
            int[] first = new int[n];
            for (int k = 0; k < n; k++) first[k] = k;
            due(n + " of twelve with the same PERIOD", y.give(n, 0), 110 * n);
            givenAre("the first " + n, y, first);
        }
        due("every other one", y.give(6, 1), 660);
        givenAre("every other one", y, 0, 2, 4, 6, 8, 10);
        LightList z = new LightList();
        offered(z, 50, 10);
        offered(z, 10, 90);
        offered(z, 20, 80);
        offered(z, 30, 70);
        due("the first alike, the second less", z.give(2, 0), 160);
        givenAre("the first alike, the second less", z, 0, 1);
        due("the last is less", z.give(3, 0), 260);
        givenAre("the last is less", z, 0, 1, 2);
    }

    // ---- 31 ----

    private static void givenNumbers() {
        says("The number of the k-th OFFER of the latest give() that was not below 0; NONE if there is none such.");
        for (int k : new int[] {-1, 0, 1, 5, 6, LEAST, MOST}) due("before any, " + k, new LightList().given(k), NONE);
        LightList x = new LightList();
        for (int i = 0; i < 6; i++) offered(x, 10 * (i + 1), 100);
        x.give(6, 0);
        givenAre("six", x, 0, 1, 2, 3, 4, 5);
        for (int k : new int[] {7, LEAST, MOST}) due("of six " + k, x.given(k), NONE);
        x.give(1, 0);
        givenAre("one", x, 0);
        for (int k = 1; k <= 6; k++) due("no more of the six, " + k, x.given(k), NONE);
        x.give(3, 0);
        givenAre("three", x, 0, 1, 2);
        due("one below 0", x.give(6, 50), -2);
        givenAre("three still", x, 0, 1, 2);
        due("one that can't be", x.give(7, 0), NONE);
        givenAre("three still", x, 0, 1, 2);
        due("another one that can't be", x.give(1, 51), NONE);
        givenAre("three still", x, 0, 1, 2);
    }

    private static void givenStays() {
        says("An IMAGE is all but THE ROW, what was given, and what can be undone;");
        LightList x = new LightList();
        x.keep(0);
        offered(x, 10, 20);
        offered(x, 30, 20);
        x.keep(1);
        x.give(2, 0);
        x.undo(2);
        givenAre("behind undo", x, 0, 1);
        x.back(0);
        givenAre("behind back", x, 0, 1);
        due("none can be given there", x.give(1, 0), -2);
        givenAre("behind that", x, 0, 1);
        x.back(1);
        x.give(1, 0);
        x.keep(2);
        x.give(2, 0);
        x.back(2);
        givenAre("not what was given when it was kept", x, 0, 1);
    }
}
