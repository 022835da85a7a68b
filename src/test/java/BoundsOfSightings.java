/** The boundary cases of promises 17 to 25: SIGHTINGS, what they can be, ASK, BEARINGS and CROSS. */
final class BoundsOfSightings extends Bounds {
    private BoundsOfSightings() { }

    static void all() {
        sightArguments();
        sightFlags();
        sightRows();
        sightingsFull();
        bears();
        fitsArguments();
        fitsByError();
        fitsCut();
        fitsRound();
        fitsFixed();
        fitsNothingCounted();
        canBeBySquare();
        canBeBySector();
        canBeByColour();
        canBeNow();
        whichAndOne();
        surely();
        askParts();
        askGoesRound();
        askOfAll();
        askRefused();
        grids();
        crossBySquare();
        crossByBearing();
        crossBeyond();
        crossOfSure();
        crossNoneLeft();
        squares();
    }

    // ---- 17 ----

    private static long sight(LightList x, int[] a) {
        return x.sight(a[0], a[1], a[2], a[3], a[4], a[5]);
    }

    private static void sightArguments() {
        says("SIGHTINGS, 100 at most: a SQUARE x - r .. x + r, y - r .. y + r in which the ship is (at whole numbers; r 0 .. 20), a colour (1 .. 15), an ERROR (0 .. 50), whether the first SPAN that was counted is light, whether the first, the last one are CUT;");
        says("its number; NONE, doing nothing: one of these can't be (x, y are -1000 .. 1000), there are 100.");
        Script counted = Bounds::busyCoast;
        Script nothing = x -> {
            busyCoast(x);
            x.tear();
        };
        int[][] ranges = {{-1000, 1000}, {-1000, 1000}, {0, 20}, {1, 15}, {0, 50}};
        for (int number = 0; number < ranges.length; number++) {
            int[] good = {0, 0, 0, 1, 0, 1};
            edges("sight", counted, BoundsOfSightings::sight, good, number, ranges[number][0], ranges[number][1], 3, NONE);
            edges("sight of nothing counted", nothing, BoundsOfSightings::sight, good, number, ranges[number][0], ranges[number][1], 3, NONE);
        }
    }

    private static void sightFlags() {
        says("A SIGHTING (flags: 1 the first is light, 2 it is CUT, 4 the last is CUT):");
        edges("sight", Bounds::busyCoast, BoundsOfSightings::sight, new int[] {0, 0, 0, 1, 0, 1}, 5, 0, 7, 3, NONE);
        for (int flags : new int[] {-8, 9, 15, 16, 256}) {
            refused("flags " + flags, NONE, Bounds::busyCoast, x -> x.sight(0, 0, 0, 1, 0, flags));
        }
        for (int flags = 0; flags <= 7; flags++) {
            LightList x = after(y -> flash(y, 0, 10, 20, 30, 40));
            boolean isLight = (flags & LIGHT_FIRST) != 0;
            boolean isFirstCut = (flags & CUT_FIRST) != 0;
            boolean isLastCut = (flags & CUT_LAST) != 0;
            due("light 30 first, flags " + flags, x.fits(seen(x, 0, flags, 30, 40, 10), 0), isLight ? 1 : 0);
            due("dark 40 first, flags " + flags, x.fits(seen(x, 0, flags, 40, 10, 20), 0), isLight ? 0 : 1);
            due("a short first, flags " + flags, x.fits(seen(x, 0, flags, 29, 40, 10), 0), isLight && isFirstCut ? 1 : 0);
            due("a short last, flags " + flags, x.fits(seen(x, 0, flags, 30, 40, 9), 0), isLight && isLastCut ? 1 : 0);
            due("a short one between, flags " + flags, x.fits(seen(x, 0, flags, 30, 39, 10), 0), 0);
        }
    }

    private static void sightRows() {
        says("THE ROW is what was counted (perhaps nothing: it was seen alone; then nothing is CUT, and it FITS every LIGHT).");
        for (int length = 0; length <= 24; length++) {
            for (int t : new int[] {1, 600}) {
                int[] numbers = times(length, t);
                done(length + " numbers " + t, 0, x -> row(x, numbers), x -> x.sight(0, 0, 0, 1, 0, 0));
                LightList x = after(y -> row(y, numbers), y -> y.sight(0, 0, 0, 1, 0, 1));
                due("they were taken", x.about(4), 0);
            }
        }
        for (int flags = 0; flags <= 7; flags++) {
            int f = flags;
            if (flags <= LIGHT_FIRST) done("nothing counted, flags " + flags, 0, NOTHING, x -> x.sight(0, 0, 0, 1, 0, f));
            else refused("nothing counted, flags " + flags, NONE, NOTHING, x -> x.sight(0, 0, 0, 1, 0, f));
            done("one counted, flags " + flags, 0, x -> x.span(1), x -> x.sight(0, 0, 0, 1, 0, f));
        }
    }

    private static void sightingsFull() {
        says("SIGHTINGS, 100 at most:");
        LightList x = new LightList();
        for (int i = 0; i < 100; i++) due("sighting " + i, x.sight(i, -i, 0, 1, 0, 0), i);
        Script full = y -> {
            lamp(y, 0, FIXED, 0);
            for (int i = 0; i < 100; i++) y.sight(i, -i, 0, 1, 0, 0);
        };
        refused("the 101st", NONE, full, y -> y.sight(0, 0, 0, 1, 0, 0));
        refused("the 101st, counted", NONE, y -> {
            full.on(y);
            row(y, 3, 4, 5);
        }, y -> y.sight(0, 0, 0, 1, 0, 7));
        due("the last one can have a BEARING", x.bear(99, 1, 0), true);
        due("both are undone", x.undo(2), 2);
        due("there is room for one", x.sight(0, 0, 0, 1, 0, 0), 99);
        due("for one alone", x.sight(0, 0, 0, 1, 0, 0), NONE);
    }

    // ---- 18 ----

    private static void bears() {
        says("A SIGHTING has this BEARING (-1000 .. 1000 each, not 0, 0; in place of one before): true; false, doing nothing.");
        Script busy = Bounds::busyCoast;
        edges("bear", busy, (x, a) -> yes(x.bear(a[0], a[1], a[2])), new int[] {0, 5, -9}, 0, 0, 2, 1, 0);
        edges("bear", busy, (x, a) -> yes(x.bear(a[0], a[1], a[2])), new int[] {0, 5, -9}, 1, -1000, 1000, 1, 0);
        edges("bear", busy, (x, a) -> yes(x.bear(a[0], a[1], a[2])), new int[] {0, 5, -9}, 2, -1000, 1000, 1, 0);
        for (int sighting = 0; sighting <= 2; sighting++) {
            int s = sighting;
            refused("bear 0, 0", 0, busy, x -> yes(x.bear(s, 0, 0)));
            done("bear 0, 1", 1, busy, x -> yes(x.bear(s, 0, 1)));
            done("bear -1, 0", 1, busy, x -> yes(x.bear(s, -1, 0)));
        }
        refused("bear without a SIGHTING", 0, NOTHING, x -> yes(x.bear(0, 1, 0)));
        LightList x = after(coastOfOne(0, 10), y -> y.bear(0, -1, 0), y -> y.bear(0, 1, 0));
        due("in place of the one before", x.cross(20) > 0, true);
        due("it comes again when the latter is undone", x.undo(1) == 1 && x.cross(20) == -2, true);
    }

    /** A FIXED light at 990, 10 and, in its west, a sighting at -510, 10 that is sure of it. */
    private static Script coastOfOne(int r, int y) {
        return x -> {
            x.light(0, FIXED, 0, 990, 10, 2000, 1);
            x.sight(-510, y, r, 1, 0, 0);
        };
    }

    // ---- 19 ----

    private static void fitsArguments() {
        says("1 if a SIGHTING FITS a LIGHT, else 0; NONE if there is none such.");
        int[][] none = {{-1, 0}, {3, 0}, {LEAST, 0}, {MOST, 0}, {0, -1}, {0, 6}, {0, LEAST}, {0, MOST}, {-1, -1}, {3, 6}};
        for (int[] n : none) refused("fits " + n[0] + ", " + n[1], NONE, Bounds::busyCoast, x -> x.fits(n[0], n[1]));
        LightList x = after(Bounds::busyCoast);
        due("the first of both", x.fits(0, 0), 0);
        due("the last of both", x.fits(2, 5), 1);
        due("no LIGHT at all", after(y -> seen(y, 0, 0)).fits(0, 0), NONE);
        due("no SIGHTING at all", after(y -> flash(y, 0, 1, 1)).fits(0, 0), NONE);
    }

    private static void fitsIs(String what, int want, int[] spans, int error, int flags, int... counted) {
        LightList x = after(y -> flash(y, 0, spans), y -> seen(y, error, flags, counted));
        due(what + " " + java.util.Arrays.toString(counted) + " by " + error + ", flags " + flags, x.fits(0, 0), want);
    }

    private static void fitsByError() {
        says("are each what was counted, but for ERROR: not farther from it;");
        int[] spans = {100, 200, 300, 400};
        for (int e : new int[] {0, 1, 2, 49, 50}) {
            for (int turn = 0; turn < 4; turn++) {
                int span = spans[turn];
                int next = spans[(turn + 1) % 4];
                int flags = turn % 2 == 0 ? LIGHT_FIRST : 0;
                fitsIs("as long as can be", 1, spans, e, flags, span + e);
                fitsIs("too long", 0, spans, e, flags, span + e + 1);
                fitsIs("as short as can be", 1, spans, e, flags, span - e);
                fitsIs("too short", 0, spans, e, flags, span - e - 1);
                fitsIs("the second as long as can be", 1, spans, e, flags, span - e, next + e);
                fitsIs("the second too long", 0, spans, e, flags, span - e, next + e + 1);
                fitsIs("the second as short as can be", 1, spans, e, flags, span + e, next - e);
                fitsIs("the second too short", 0, spans, e, flags, span + e, next - e - 1);
                fitsIs("light for dark, dark for light", 0, spans, e, LIGHT_FIRST - flags, span);
            }
        }
        fitsIs("1 by 50", 1, new int[] {51, 60}, 50, LIGHT_FIRST, 1);
        fitsIs("1 by 49", 0, new int[] {51, 60}, 49, LIGHT_FIRST, 1);
        fitsIs("600 by 50", 1, new int[] {550, 600}, 50, LIGHT_FIRST, 600);
        fitsIs("600 by 49", 0, new int[] {550, 600}, 49, LIGHT_FIRST, 600);
    }

    private static void fitsCut() {
        says("of a CUT one: not less than the counted one by more than ERROR.");
        int[] spans = {100, 200, 300, 400};
        for (int e : new int[] {0, 1, 49, 50}) {
            for (int cut : new int[] {CUT_FIRST, CUT_LAST, CUT_FIRST | CUT_LAST}) {
                fitsIs("one number", 1, spans, e, LIGHT_FIRST | cut, 1);
                fitsIs("one number", 1, spans, e, LIGHT_FIRST | cut, 300 + e);
                fitsIs("one number", 0, spans, e, LIGHT_FIRST | cut, 301 + e);
                fitsIs("one dark number", 1, spans, e, cut, 400 + e);
                fitsIs("one dark number", 0, spans, e, cut, 401 + e);
            }
            fitsIs("the first", 1, spans, e, LIGHT_FIRST | CUT_FIRST, 1, 200);
            fitsIs("the first", 1, spans, e, LIGHT_FIRST | CUT_FIRST, 100 + e, 200);
            fitsIs("the first", 0, spans, e, LIGHT_FIRST | CUT_FIRST, 101 + e, 200);
            fitsIs("the first, not the last", 1, spans, e, LIGHT_FIRST | CUT_FIRST, 1, 200 - e);
            fitsIs("the first, not the last", 0, spans, e, LIGHT_FIRST | CUT_FIRST, 1, 199 - e);
            fitsIs("the last", 1, spans, e, LIGHT_FIRST | CUT_LAST, 100, 1);
            fitsIs("the last", 1, spans, e, LIGHT_FIRST | CUT_LAST, 100, 200 + e);
            fitsIs("the last", 0, spans, e, LIGHT_FIRST | CUT_LAST, 100, 201 + e);
            fitsIs("the last, not the first", 1, spans, e, LIGHT_FIRST | CUT_LAST, 100 - e, 1);
            fitsIs("the last, not the first", 0, spans, e, LIGHT_FIRST | CUT_LAST, 99 - e, 1);
            fitsIs("one between", 1, spans, e, 7, 1, 200 - e, 1);
            fitsIs("one between", 0, spans, e, 7, 1, 199 - e, 1);
            fitsIs("one between", 1, spans, e, 7, 1, 400 + e, 1);
            fitsIs("one between", 0, spans, e, 7, 1, 401 + e, 1);
        }
        LightList morse = after(y -> lamp(y, 0, MORSE, 3, 299, 301));
        due("a SPAN above 600, whole", morse.fits(seen(morse, 50, LIGHT_FIRST, 600), 0), 0);
        due("a SPAN above 600, CUT", morse.fits(seen(morse, 0, LIGHT_FIRST | CUT_LAST, 600), 0), 1);
    }

    private static void fitsRound() {
        says("It FITS a LIGHT (as it is on DAY, as KNOWN) if there is a SPAN of it, light if the first counted one is, else dark, from which on its SPANS (going round as often as need be)");
        int[] spans = new int[24];
        for (int i = 0; i < 24; i++) spans[i] = 10 + 3 * i;
        for (int start = 0; start < 24; start++) {
            int[] counted = new int[24];
            for (int i = 0; i < 24; i++) counted[i] = spans[(start + i) % 24];
            int flags = start % 2 == 0 ? LIGHT_FIRST : 0;
            fitsIs("all of it", 1, spans, 0, flags, counted);
            fitsIs("light for dark", 0, spans, 0, LIGHT_FIRST - flags, counted);
            int[] wrong = counted.clone();
            wrong[23]++;
            fitsIs("the last one wrong", 0, spans, 0, flags, wrong);
            fitsIs("the last one wrong", 1, spans, 1, flags, wrong);
            int[] wrongFirst = counted.clone();
            wrongFirst[0]--;
            fitsIs("the first one wrong", 0, spans, 0, flags, wrongFirst);
            fitsIs("the first one wrong", 1, spans, 1, flags, wrongFirst);
        }
        for (int length = 1; length <= 24; length++) {
            int[] light = new int[length];
            int[] dark = new int[length];
            for (int i = 0; i < length; i++) {
                light[i] = i % 2 == 0 ? 7 : 9;
                dark[i] = 16 - light[i];
            }
            fitsIs("round and round", 1, new int[] {7, 9}, 0, LIGHT_FIRST, light);
            fitsIs("round and round from the dark", 1, new int[] {7, 9}, 0, 0, dark);
            fitsIs("round and round, light for dark", 0, new int[] {7, 9}, 0, 0, light);
            light[length - 1]++;
            fitsIs("round and round, at last wrong", 0, new int[] {7, 9}, 0, LIGHT_FIRST, light);
        }
    }

    private static void fitsFixed() {
        says("A FIXED one has one light SPAN without end: what was counted FITS it if it is one light number that is CUT at both ends.");
        for (int flags = 0; flags <= 7; flags++) {
            for (int error : new int[] {0, 50}) {
                for (int t : new int[] {1, 600}) {
                    LightList x = after(y -> lamp(y, 0, FIXED, 0));
                    due("one number, flags " + flags, x.fits(seen(x, error, flags, t), 0), flags == 7 ? 1 : 0);
                    due("two numbers, flags " + flags, x.fits(seen(x, error, flags, t, t), 0), 0);
                    due("three numbers, flags " + flags, x.fits(seen(x, error, flags, t, t, t), 0), 0);
                }
            }
        }
    }

    private static void fitsNothingCounted() {
        says("then nothing is CUT, and it FITS every LIGHT");
        LightList x = after(Bounds::busyCoast);
        x.tear();
        for (int flags = 0; flags <= 1; flags++) {
            int s = x.sight(-1000, 1000, 0, 15, 0, flags);
            for (int light = 0; light < 6; light++) due("light " + light + ", LIT or not, near or far", x.fits(s, light), 1);
        }
    }

    // ---- 20 ----

    private static void canBeBySquare() {
        says("and from some place of its SQUARE a ship SEES it in the SIGHTING's colour.");
        for (int r : new int[] {0, 1, 19, 20}) {
            for (int turn = 0; turn < 4; turn++) {
                int sx = (turn & 1) == 0 ? 1 : -1;
                int sy = (turn & 2) == 0 ? 1 : -1;
                Script lamp = x -> x.light(0, FIXED, 0, 50, -60, 5, 1);
                seenFrom("the corner at 3, 4", 1, lamp, 50 + sx * (3 + r), -60 + sy * (4 + r), r);
                seenFrom("the corner at 4, 4", 0, lamp, 50 + sx * (4 + r), -60 + sy * (4 + r), r);
                seenFrom("the corner at 3, 5", 0, lamp, 50 + sx * (3 + r), -60 + sy * (5 + r), r);
                seenFrom("a side at 5", 1, lamp, 50 + sx * (5 + r), -60, r);
                seenFrom("a side at 6", 0, lamp, 50 + sx * (6 + r), -60, r);
                seenFrom("another side at 5", 1, lamp, 50, -60 + sy * (5 + r), r);
                seenFrom("another side at 6", 0, lamp, 50, -60 + sy * (6 + r), r);
                Script thick = x -> {
                    lamp.on(x);
                    x.haze(0x3F800000);
                };
                seenFrom("at the light itself", 1, thick, 50 + sx * r, -60 + sy * r, r);
                seenFrom("beside the light", 0, thick, 50 + sx * (r + 1), -60 + sy * r, r);
            }
        }
        Script edge = x -> x.light(0, FIXED, 0, 1000, 1000, 1, 1);
        seenFrom("at the edge of the sea", 1, edge, 1000, 1000, 20);
        seenFrom("as near as need be", 1, edge, 979, 980, 20);
        seenFrom("not so near", 0, edge, 979, 979, 20);
    }

    private static void seenFrom(String what, int want, Script before, int x, int y, int r) {
        LightList office = after(before);
        due(what + " from " + x + ", " + y + " by " + r, office.which(office.sight(x, y, r, 1, 0, 0)), want);
    }

    private static void canBeBySector() {
        says("a SQUARE x - r .. x + r, y - r .. y + r in which the ship is (at whole numbers; r 0 .. 20)");
        // From 20, 1 on and ahead of 19, 1 lies one place of the SQUARE, 20, 1 itself; going the other way, 19, 1.
        for (int turn = 0; turn < 8; turn++) {
            boolean isMirrored = turn >= 4;
            int far = isMirrored ? 19 : 20;
            int[] red = turned(turn, far, 1);
            int[] green = turned(turn, 39 - far, 1);
            LightList x = new LightList();
            row(x, 10, 20);
            x.light(0, SECTOR, 0, 1000, 1000, 30, 1);
            x.direct(0, red[0], red[1], 2);
            x.direct(0, green[0], green[1], 3);
            due("the place, turn " + turn, x.at(0, 0, 1000 + red[0], 1000 + red[1]), 2);
            due("a SQUARE with it, turn " + turn, x.which(x.sight(1000, 1000, far, 2, 0, 0)), 1);
            due("a SQUARE without it, turn " + turn, x.which(x.sight(1000, 1000, far - 1, 2, 0, 0)), 0);
        }
        LightList x = new LightList();
        row(x, 10, 20);
        x.light(0, SECTOR, 0, 0, 0, 500, 1);
        x.direct(0, 1000, 499, 2);
        x.direct(0, 1000, 500, 3);
        due("a ray that meets no whole numbers", x.which(x.sight(20, 10, 20, 2, 0, 0)), 0);
        due("beside it", x.which(x.sight(20, 10, 20, 3, 0, 0)), 1);
        due("its own colour at the light alone", x.which(x.sight(20, 10, 20, 1, 0, 0)), 1);
        for (int colour = 4; colour <= 15; colour++) {
            due("a colour that no SECTOR has: " + colour, x.which(x.sight(20, 10, 20, colour, 0, 0)), 0);
        }
        for (int own = 1; own <= 3; own++) {
            for (int shown = 1; shown <= 3; shown++) {
                LightList y = new LightList();
                row(y, 10, 20);
                y.light(0, SECTOR, 0, 0, 0, 500, own);
                y.direct(0, 1, 1, shown);
                for (int colour = 1; colour <= 3; colour++) {
                    due(colour + " of a SECTOR that shows " + shown, y.which(y.sight(30, 30, 5, colour, 0, 0)), colour == shown ? 1 : 0);
                    due(colour + " with the light itself", y.which(y.sight(3, 3, 5, colour, 0, 0)), colour == shown || colour == own ? 1 : 0);
                }
            }
        }
        due("its own colour not beside the light", x.which(x.sight(21, 10, 20, 1, 0, 0)), 0);
    }

    /** The place turned by quarters, and mirrored from the fifth turn on. */
    private static int[] turned(int turn, int x, int y) {
        int px = x;
        int py = turn < 4 ? y : -y;
        for (int i = 0; i < turn % 4; i++) {
            int old = px;
            px = -py;
            py = old;
        }
        return new int[] {px, py};
    }

    private static void canBeByColour() {
        says("a colour (1 .. 15), an ERROR (0 .. 50)");
        for (int own = 1; own <= 3; own++) {
            for (int n = 0; n <= 3; n++) {
                LightList x = new LightList();
                row(x, 5, 5);
                x.light(0, n == 0 ? FLASH : SISTER, n, 0, 0, 9, own);
                for (int colour = 1; colour <= 15; colour++) {
                    x.tear();
                    due("colour " + colour + " of " + own + " and " + n, x.which(x.sight(0, 0, 0, colour, 0, 0)), colour == own + 4 * n ? 1 : 0);
                }
            }
        }
    }

    private static void canBeNow() {
        says("It CAN BE a LIGHT if it FITS it, the LIGHT is LIT,");
        Script before = x -> {
            flash(x, 0, 10, 20);
            seen(x, 0, LIGHT_FIRST, 10, 20);
            x.notice(0, OUT, 0, 0, 5, 6, 0);
            x.notice(0, MOVED, 500, 0, 7, 8, 0);
            row(x, 10, 21);
            x.notice(0, CHANGED, 0, 0, 9, 10, 0);
        };
        int[] can = {1, 0, 1, 0, 1, 0, 1};
        int[] fits = {1, 1, 1, 1, 1, 0, 1};
        for (int i = 0; i < can.length; i++) {
            LightList x = after(before);
            x.days(4 + i, 0);
            due("which on " + (4 + i), x.which(0), can[i]);
            due("sure on " + (4 + i), x.sure(0), can[i] - 1);
            due("one on " + (4 + i), x.one(0, 0), can[i] - 1);
            due("fits on " + (4 + i), x.fits(0, 0), fits[i]);
        }
    }

    // ---- 20, 21, 22 ----

    private static void whichAndOne() {
        says("How many LIGHTS a SIGHTING can be; NONE if there is none such.");
        Script full = x -> {
            for (int i = 0; i < 60; i++) x.light(i, FIXED, 0, 0, 0, 5, 1 + i % 2);
            x.sight(0, 0, 0, 1, 0, 0);
            x.sight(0, 0, 0, 2, 0, 0);
            x.sight(0, 0, 0, 3, 0, 0);
            x.sight(900, 0, 0, 1, 0, 0);
        };
        LightList x = after(full);
        due("30 of 60", x.which(0), 30);
        due("30 others", x.which(1), 30);
        due("none by its colour", x.which(2), 0);
        due("none by its place", x.which(3), 0);
        for (int s : new int[] {-1, 4, LEAST, MOST}) refused("which " + s, NONE, full, y -> y.which(s));
        says("The k-th LIGHT that it can be, by number; NONE if there is none such.");
        for (int k = 0; k < 30; k++) {
            due("one " + k, x.one(0, k), 2 * k);
            due("another " + k, x.one(1, k), 2 * k + 1);
        }
        int[][] none = {{0, 30}, {0, -1}, {0, LEAST}, {0, MOST}, {2, 0}, {3, 0}, {-1, 0}, {4, 0}, {LEAST, 0}, {MOST, 0}};
        for (int[] n : none) refused("one " + n[0] + ", " + n[1], NONE, full, y -> y.one(n[0], n[1]));
        LightList all = new LightList();
        for (int i = 0; i < 60; i++) all.light(i, FIXED, 0, 0, 0, 5, 1);
        all.sight(0, 0, 0, 1, 0, 0);
        due("all 60", all.which(0), 60);
        due("the last of 60", all.one(0, 59), 59);
        due("behind the last of 60", all.one(0, 60), NONE);
    }

    private static void surely() {
        says("It is SURE if it can be just one.");
        LightList x = new LightList();
        x.sight(0, 0, 0, 1, 0, 0);
        due("no LIGHT", x.sure(0), NONE);
        lamp(x, 9, FIXED, 0);
        due("one LIGHT", x.sure(0), 0);
        lamp(x, 8, FIXED, 0);
        due("two LIGHTS", x.sure(0), NONE);
        x.notice(0, OUT, 0, 0, 0, NONE, 0);
        due("one of the two", x.sure(0), 1);
        x.notice(1, OUT, 0, 0, 0, NONE, 0);
        due("none of the two", x.sure(0), NONE);
        says("The LIGHT that a SIGHTING is, if it is SURE; NONE else.");
        for (int light = 0; light < 60; light++) {
            LightList y = new LightList();
            for (int i = 0; i < 60; i++) y.light(i, FIXED, 0, i * 10, 0, 5, 1);
            y.sight(10 * light, 0, 4, 1, 0, 0);
            due("LIGHT " + light + " of 60", y.sure(0), light);
            due("the one it can be", y.one(0, 0), light);
        }
        for (int s : new int[] {-1, 3, LEAST, MOST}) refused("sure " + s, NONE, Bounds::busyCoast, y -> y.sure(s));
    }

    // ---- 23 ----

    private static void askIs(String what, int want, int[][] lamps, int error, int flags, int... counted) {
        LightList x = new LightList();
        for (int i = 0; i < lamps.length; i++) {
            if (lamps[i].length == 0) lamp(x, i, FIXED, 0);
            else flash(x, i, lamps[i]);
        }
        due(what, x.ask(seen(x, error, flags, counted)), want);
    }

    private static void askParts() {
        says("they PART at the first tenth (from 1 on) in which one is light, the other dark.");
        askIs("the shortest SPANS", 2, new int[][] {{1, 1}, {1, 2}}, 0, LIGHT_FIRST, 1);
        askIs("the shortest SPANS, nothing counted", 2, new int[][] {{1, 1}, {2, 2}}, 0, 0);
        askIs("7 against 8", 8, new int[][] {{5, 7}, {5, 8}}, 0, LIGHT_FIRST, 5);
        askIs("8 against 7", 8, new int[][] {{5, 8}, {5, 7}}, 0, LIGHT_FIRST, 5);
        askIs("599 against 600", 600, new int[][] {{600, 599}, {600, 600}}, 0, LIGHT_FIRST, 600);
        askIs("599 against 600, nothing counted", 1200, new int[][] {{600, 599}, {600, 600}}, 0, 0);
        askIs("light behind the dark", 5, new int[][] {{4, 9}, {6, 9}}, 0, 0, 9);
        askIs("alike for three SPANS", 5 + 7 + 5 + 8 + 1, new int[][] {{5, 7, 5, 7, 5, 9}, {5, 7, 5, 7, 5, 8, 6, 8}}, 0, 0, 7);
    }

    private static int[] ones(int length, int where, int number) {
        int[] all = times(length, 1);
        all[where] = number;
        return all;
    }

    private static void askGoesRound() {
        says("of each all SPANS behind the last counted one with which it FITS (the last not CUT; of an empty row any SPAN): two of different LIGHTS are shown side by side from the beginnings of these SPANS:");
        // Behind the first of all ones 22 more are alike, then a 2 stands against a 1.
        askIs("parted by its last SPAN", 24, new int[][] {{1, 1}, ones(24, 23, 2)}, 0, LIGHT_FIRST, 1);
        // Behind the second light one 21 more are alike, then it goes round to the 2.
        askIs("parted by its first SPAN", 23, new int[][] {{1, 1}, ones(24, 0, 2)}, 0, LIGHT_FIRST, 1);
        askIs("the last counted is the last SPAN of it", 4, new int[][] {{3, 9}, {4, 9}}, 0, LIGHT_FIRST | CUT_FIRST, 1, 9);
        askIs("the ERROR lets two in", 26, new int[][] {{10, 20, 12, 30}, {10, 25}}, 1, LIGHT_FIRST, 11);
        askIs("without it there is one", 21, new int[][] {{10, 20, 12, 30}, {10, 25}}, 0, LIGHT_FIRST, 10);
        askIs("24 counted, round and round", 5, new int[][] {{3, 4}, {3, 4, 3, 4, 3, 4, 3, 4, 3, 4, 3, 4, 3, 4, 3, 4, 3, 4, 3, 4, 3, 4, 3, 5}}, 0, LIGHT_FIRST,
            3, 4, 3, 4, 3, 4, 3, 4, 3, 4, 3, 4, 3, 4, 3, 4, 3, 4, 3, 4, 3, 4, 3);
        says("else -2 if some never PART;");
        askIs("the same", -2, new int[][] {{3, 4}, {3, 4}}, 0, LIGHT_FIRST, 3);
        askIs("the same told longer", -2, new int[][] {{3, 4}, {3, 4, 3, 4, 3, 4}}, 0, LIGHT_FIRST, 3);
        askIs("the same told at two lengths", -2, new int[][] {{3, 4, 3, 4}, {3, 4, 3, 4, 3, 4}}, 0, 0);
        askIs("the same from another SPAN on", -2, new int[][] {{3, 4, 5, 6}, {5, 6, 3, 4}}, 0, LIGHT_FIRST, 3);
        askIs("22 and 24 ones", -2, new int[][] {times(22, 1), times(24, 1)}, 0, 0);
        askIs("two never part, one does", -2, new int[][] {{3, 4}, {3, 5}, {3, 4}}, 0, LIGHT_FIRST, 3);
        askIs("not all never part", -2, new int[][] {{3, 4, 3, 4, 3, 5}, {3, 4, 3, 5, 3, 4}}, 0, LIGHT_FIRST, 3);
        askIs("of one LIGHT two SPANS that never part are not asked", 5, new int[][] {{3, 4, 3, 4}, {3, 5}}, 0, LIGHT_FIRST, 3);
    }

    private static void askOfAll() {
        says("What is told is 0 if it can be less than two LIGHTS;");
        int[][] nine = new int[9][];
        for (int i = 0; i < 9; i++) nine[i] = new int[] {10, 20 + i};
        askIs("none", 0, new int[][] {{3, 4}}, 0, LIGHT_FIRST, 9);
        askIs("no LIGHTS", 0, new int[][] {}, 0, 0);
        askIs("one", 0, new int[][] {{3, 4}}, 0, LIGHT_FIRST, 3);
        askIs("one, the last CUT", 0, new int[][] {{3, 4}}, 0, LIGHT_FIRST | CUT_LAST, 3);
        askIs("none, the last CUT", 0, new int[][] {{3, 4}}, 0, LIGHT_FIRST | CUT_LAST, 9);
        askIs("a FIXED one alone", 0, new int[][] {{}}, 0, 0);
        askIs("a FIXED one alone, CUT at both ends", 0, new int[][] {{}, {3, 4}}, 0, 7, 9);
        askIs("two", 5, new int[][] {{3, 4}, {3, 5}}, 0, LIGHT_FIRST, 3);
        says("else the greatest of all.");
        askIs("of three", 31, new int[][] {{10, 20}, {10, 30}, {10, 40}}, 0, LIGHT_FIRST, 10);
        askIs("of eight", 27, java.util.Arrays.copyOf(nine, 8), 0, LIGHT_FIRST, 10);
        LightList x = new LightList();
        for (int i = 0; i < 9; i++) flash(x, i, nine[i]);
        seen(x, 0, LIGHT_FIRST, 10);
        due("of nine", x.ask(0), -3);
        x.notice(8, OUT, 0, 0, 0, NONE, 0);
        due("of nine less one that is OUT", x.ask(0), 27);
        x.notice(7, MOVED, 900, 0, 0, NONE, 0);
        due("of nine less one that is not seen", x.ask(0), 26);
    }

    private static void askRefused() {
        says("else -3 if the last is CUT, if it can be more than 8, or a FIXED one;");
        int[][] two = {{3, 4}, {3, 5}};
        int[][] same = {{3, 4}, {3, 4}};
        for (int flags = 0; flags <= 7; flags++) {
            boolean isLight = (flags & LIGHT_FIRST) != 0;
            boolean isLastCut = (flags & CUT_LAST) != 0;
            int parts = isLight ? 5 : 4;
            askIs("flags " + flags, isLastCut ? -3 : parts, isLight ? two : new int[][] {{3, 4}, {5, 4}}, 0, flags, isLight ? 3 : 4);
            askIs("the same, flags " + flags, isLastCut ? -3 : -2, same, 0, flags, isLight ? 3 : 4);
        }
        askIs("a FIXED one and another", -3, new int[][] {{}, {3, 4}}, 0, 0);
        askIs("another and a FIXED one", -3, new int[][] {{3, 4}, {}}, 0, LIGHT_FIRST);
        askIs("two FIXED ones", -3, new int[][] {{}, {}}, 0, 0);
        askIs("a FIXED one among the same ones", -3, new int[][] {{3, 4}, {3, 4}, {}}, 0, 0);
        askIs("a FIXED one that it can't be", 5, new int[][] {{3, 4}, {3, 5}, {}}, 0, LIGHT_FIRST, 3);
        askIs("a FIXED first one that it can't be", 5, new int[][] {{}, {3, 4}, {3, 5}}, 0, LIGHT_FIRST, 3);
        LightList x = after(y -> flash(y, 0, 3, 4), y -> flash(y, 1, 3, 5), y -> lamp(y, 2, FIXED, 0));
        int alone = seen(x, 0, 0);
        int counted = seen(x, 0, LIGHT_FIRST, 3);
        due("one that can be a FIXED one too", x.ask(alone), -3);
        due("behind it one that can't", x.ask(counted), 5);
        due("and again one that can", x.ask(alone), -3);
        int[][] many = new int[9][];
        java.util.Arrays.fill(many, new int[] {3, 4});
        askIs("nine the same", -3, many, 0, LIGHT_FIRST, 3);
        askIs("eight the same", -2, java.util.Arrays.copyOf(many, 8), 0, LIGHT_FIRST, 3);
        says("ASK of a SIGHTING; NONE if there is none such.");
        for (int s : new int[] {-1, 3, LEAST, MOST}) refused("ask " + s, NONE, Bounds::busyCoast, y -> y.ask(s));
    }

    // ---- 24, 25 ----

    private static void grids() {
        says("CROSS by g (20 .. 200, even): the sea from -1000 to 999 lies in squares of g times g, from -1000, -1000 on (the last ones may go beyond).");
        for (int g = -2; g <= 204; g++) {
            boolean can = g >= 20 && g <= 200 && g % 2 == 0;
            int across = 0;
            if (can) for (int from = -1000; from <= 999; from += g) across++;
            LightList x = new LightList();
            due("cross " + g, x.cross(g), can ? across * across : NONE);
            due("the first square of " + g, x.square(g, 0), can ? 0 : NONE);
            due("the last square of " + g, x.square(g, across * across - 1), can ? (across - 1) * 1001 : NONE);
            due("behind the last square of " + g, x.square(g, across * across), NONE);
        }
        for (int g : new int[] {18, 19, 21, 199, 201, 202, 0, -20, LEAST, MOST}) {
            refused("cross " + g, NONE, Bounds::busyCoast, x -> x.cross(g));
            refused("square " + g, NONE, Bounds::busyCoast, x -> x.square(g, 0));
        }
    }

    private static int crossed(Script before, int bearX, int bearY, int g) {
        LightList x = after(before);
        x.bear(0, bearX, bearY);
        return x.cross(g);
    }

    private static void crossBySquare() {
        says("the middle lies in the SIGHTING's SQUARE made wider by g on all sides,");
        // By 20 the middles are -990 + 20 i: -510 and 10 are ones. The light is far off in the same row.
        for (int r : new int[] {0, 1, 19, 20}) {
            for (int off = -20; off <= 20; off++) {
                int within = 0;
                for (int middle = -990; middle <= 990; middle += 20) if (Math.abs(middle - 10 - off) <= r + 20) within++;
                int o = off;
                int high = within;
                Script across = x -> {
                    x.light(0, FIXED, 0, 990, 10, 2000, 1);
                    x.sight(-510, 10 + o, r, 1, 0, 0);
                };
                Script along = x -> {
                    x.light(0, FIXED, 0, 990, 10, 2000, 1);
                    x.sight(-510 + o, 10, r, 1, 0, 0);
                };
                int whole = r == 20 ? 5 : 3;
                due("r " + r + ", " + off + " across", crossed(across, 1, 0, 20), high * whole);
                due("r " + r + ", " + off + " along", crossed(along, 1, 0, 20), high * whole);
            }
        }
        // The same sides by a coarser grid: of -700, -500, -300 in the light's row.
        for (int off : new int[] {-1, 0, 1}) {
            Script coarse = x -> {
                x.light(0, FIXED, 0, 900, 100, 2000, 1);
                x.sight(-500 + off, 100, 0, 1, 0, 0);
            };
            due("by 200, off " + off, crossed(coarse, 1, 0, 200), off == 0 ? 3 : 2);
        }
    }

    private static void crossByBearing() {
        says("v is not 0, 16 times the size of dx * vy - dy * vx is not above dx * vx + dy * vy.");
        for (int k : new int[] {1, 10, 60}) {
            for (int aside : new int[] {k - 1, k, k + 1, -k + 1, -k, -k - 1}) {
                boolean isWithin = Math.abs(aside) <= k;
                for (int scale : new int[] {1, 1000}) {
                    bearingCounts(new int[] {scale, 0}, 16 * k, aside, isWithin);
                    bearingCounts(new int[] {0, scale}, aside, 16 * k, isWithin);
                    bearingCounts(new int[] {-scale, 0}, -16 * k, aside, isWithin);
                    bearingCounts(new int[] {0, -scale}, aside, -16 * k, isWithin);
                }
            }
        }
        // 16 times as far along 3, 4 as aside of it.
        for (int k : new int[] {1, 5, 14}) {
            for (int aside : new int[] {k - 1, k, k + 1, -k + 1, -k, -k - 1}) {
                for (int scale : new int[] {1, -1, 250, -250}) {
                    int way = Integer.signum(scale);
                    bearingCounts(new int[] {3 * scale, 4 * scale}, way * 48 * k - 4 * aside, way * 64 * k + 3 * aside, Math.abs(aside) <= k);
                }
            }
        }
        bearingCounts(new int[] {1, 0}, 0, 0, false);
        bearingCounts(new int[] {1, 0}, 1, 0, true);
        bearingCounts(new int[] {1, 0}, -1, 0, false);
        bearingCounts(new int[] {1, 0}, 0, 1, false);
        bearingCounts(new int[] {1, 0}, 0, -1, false);
        bearingCounts(new int[] {1, 0}, 15, 1, false);
        bearingCounts(new int[] {1, 0}, 16, 1, true);
        bearingCounts(new int[] {1, 0}, 16, -1, true);
        bearingCounts(new int[] {-1, 0}, -16, -1, true);
        bearingCounts(new int[] {-1, 0}, -15, -1, false);
        bearingCounts(new int[] {1000, 1000}, 17, 15, true);
        bearingCounts(new int[] {1000, 1000}, 16, 14, false);
        bearingCounts(new int[] {1000, -1000}, 17, -15, true);
        bearingCounts(new int[] {1000, -1000}, 16, -14, false);
        bearingCounts(new int[] {1000, 1}, 990, 1, true);
    }

    /** Whether it is among the few squares that are left. */
    private static boolean hasSquare(LightList x, int g, int square) {
        for (int k = 0; k < 20; k++) if (x.square(g, k) == square) return true;
        return false;
    }

    /** Whether the middle 10, 10 is one of the squares when the light is by v from it. */
    private static void bearingCounts(int[] b, int vx, int vy, boolean want) {
        LightList x = new LightList();
        x.light(0, FIXED, 0, 10 + vx, 10 + vy, 2000, 1);
        x.sight(10, 10, 0, 1, 0, 0);
        x.bear(0, b[0], b[1]);
        boolean isThere = hasSquare(x, 20, 50 + 1000 * 50);
        due("bearing " + b[0] + ", " + b[1] + " and v " + vx + ", " + vy, isThere, want);
    }

    private static void crossBeyond() {
        says("Of those squares whose middle (-1000 + g * i + g / 2, likewise) is a place where the ship can be for all SIGHTINGS that are SURE and have a BEARING:");
        // By 198 the eleventh middle is 1079; with it 881 lies within 20 and 198 of 1000.
        for (int turn = 0; turn < 2; turn++) {
            LightList x = new LightList();
            x.light(0, FIXED, 0, turn == 0 ? 0 : 89, turn == 0 ? 89 : 0, 2000, 1);
            x.sight(turn == 0 ? 1000 : 89, turn == 0 ? 89 : 1000, 20, 1, 0, 0);
            x.bear(0, turn == 0 ? -1 : 0, turn == 0 ? 0 : -1);
            due("beyond the sea", x.cross(198), 2);
            due("the last but one", x.square(198, 0), turn == 0 ? 9 + 5000 : 5 + 9000);
            due("the last", x.square(198, 1), turn == 0 ? 10 + 5000 : 5 + 10000);
        }
        // By 22 the last middle is 991, by 20 it is 990.
        for (int g : new int[] {20, 22}) {
            int last = g == 20 ? 990 : 991;
            LightList x = new LightList();
            x.light(0, FIXED, 0, 0, last, 2000, 1);
            x.sight(1000, 1000, 0, 1, 0, 0);
            x.bear(0, -1, 0);
            int across = g == 20 ? 100 : 91;
            due("the last square by " + g, hasSquare(x, g, 1001 * (across - 1)), true);
        }
        LightList first = new LightList();
        first.light(0, FIXED, 0, 0, -990, 2000, 1);
        first.sight(-1000, -1000, 0, 1, 0, 0);
        first.bear(0, 1, 0);
        due("the first square", first.square(20, 0), 0);
    }

    private static void crossOfSure() {
        says("for all SIGHTINGS that are SURE and have a BEARING:");
        // Red in the east, green in the north, white to no one: in 9 squares by each, and in the same ones by both.
        LightList both = new LightList();
        both.light(0, FIXED, 0, -990, -990, 2000, 1);
        both.light(1, FIXED, 0, 990, 10, 2000, 2);
        both.light(2, FIXED, 0, -510, 990, 2000, 3);
        both.sight(-510, 10, 0, 2, 0, 0);
        both.sight(-510, 10, 0, 3, 0, 0);
        both.bear(1, 0, 1);
        due("by the third LIGHT", both.cross(20), 9);
        both.bear(0, 1, 0);
        due("by the second and the third", both.cross(20), 9);
        both.bear(0, 0, 1);
        due("the second is not there", both.cross(20), -2);
        both.bear(0, 1, 0);
        both.bear(1, 1, 0);
        due("nor is the third", both.cross(20), -3);
        LightList x = new LightList();
        x.light(0, FIXED, 0, 990, 10, 2000, 1);
        x.light(1, FIXED, 0, 10, 990, 2000, 2);
        x.sight(-510, 10, 0, 1, 0, 0);
        x.sight(-510, 10, 0, 3, 0, 0);
        due("without a BEARING", x.cross(20), 10000);
        x.bear(1, 1, 0);
        due("with a BEARING of what it can't be", x.cross(20), 10000);
        x.bear(0, 1, 0);
        due("SURE and with a BEARING", x.cross(20), 9);
        x.light(2, FIXED, 0, 990, 10, 2000, 1);
        due("not SURE any more", x.cross(20), 10000);
        x.notice(2, OUT, 0, 0, 1, 2, 0);
        x.days(1, 0);
        due("SURE for a day", x.cross(20), 9);
        x.notice(0, MOVED, 990, 30, 1, 2, 0);
        due("by the LIGHT as it is", x.cross(20), 9);
        x.notice(0, MOVED, -990, 10, 1, 2, 0);
        due("by the LIGHT as it is now", x.cross(20), -2);
        x.days(2, 0);
        due("not SURE again", x.cross(20), 10000);
    }

    private static void crossNoneLeft() {
        says("CROSS by g: how many squares; if there are none, -2 less the number of the first SIGHTING with which (of those up to it) none is left; NONE, if g can't be.");
        for (int culprit : new int[] {0, 1, 7, 98, 99}) {
            LightList x = new LightList();
            x.light(0, FIXED, 0, 990, 10, 2000, 1);
            for (int i = 0; i < 100; i++) x.sight(-510, 10, 0, 1, 0, 0);
            for (int i = 0; i < 100; i += 7) x.bear(i, 1, 0);
            x.bear(culprit, -1, 0);
            due("none is left with " + culprit, x.cross(20), -2 - culprit);
            due("no square", x.square(20, 0), NONE);
            due("the culprit's bearing is undone", x.undo(1) == 1 ? x.cross(20) : 0, 9);
            if (culprit < 98) {
                x.bear(culprit, -1, 0);
                x.bear(98, 0, 1);
                due("a later one that leaves none either", x.cross(20), -2 - culprit);
            }
        }
        // By 40 the middles are -980 + 40 i; of those that are near enough -140, 20 alone has the light so.
        for (int off : new int[] {0, 1}) {
            LightList one = new LightList();
            one.light(0, FIXED, 0, 0, 0, 500, 1);
            one.sight(-80 + off, 0, 20, 1, 0, 0);
            one.bear(0, 8, -1);
            due("one is left, or none", one.cross(40), off == 0 ? 1 : -2);
            due("the one", one.square(40, 0), off == 0 ? 21 + 25000 : NONE);
            due("no other", one.square(40, 1), NONE);
        }
        // Each leaves some, both together none.
        LightList x = new LightList();
        x.light(0, FIXED, 0, 990, 10, 2000, 1);
        x.sight(-510, 10, 0, 1, 0, 0);
        x.sight(-430, 10, 0, 1, 0, 0);
        x.sight(-470, 10, 0, 1, 0, 0);
        for (int i = 0; i < 3; i++) x.bear(i, 1, 0);
        due("the first two have nothing in common", x.cross(20), -3);
        x.undo(2);
        due("the first alone", x.cross(20), 9);
        x.bear(2, 1, 0);
        due("the first and the third", x.cross(20), 3);
        x.bear(1, 1, 0);
        due("the second is told later, but comes first", x.cross(20), -3);
    }

    private static void squares() {
        says("The k-th of these squares, by rows from the least y on, in a row from the least x on: i + 1000 * j; NONE if there is none such, or g can't be.");
        LightList x = after(coastOfOne(0, 10));
        x.bear(0, 1, 0);
        int[] want = {23 + 49000, 24 + 49000, 25 + 49000, 23 + 50000, 24 + 50000, 25 + 50000, 23 + 51000, 24 + 51000, 25 + 51000};
        due("nine", x.cross(20), 9);
        for (int k = 0; k < 9; k++) due("square " + k, x.square(20, k), want[k]);
        for (int k : new int[] {-1, 9, 10, LEAST, MOST}) {
            refused("square " + k, NONE, y -> {
                coastOfOne(0, 10).on(y);
                y.bear(0, 1, 0);
            }, y -> y.square(20, k));
        }
        LightList empty = new LightList();
        due("the last of the first row", empty.square(20, 99), 99);
        due("the first of the second row", empty.square(20, 100), 1000);
        due("the last of all", empty.square(20, 9999), 99099);
        due("behind the last of all", empty.square(20, 10000), NONE);
        for (int g : new int[] {18, 21, 202}) due("square by " + g, empty.square(g, 0), NONE);
    }
}
