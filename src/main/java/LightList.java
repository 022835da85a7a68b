import java.util.Arrays;

/** An office that gives each lamp on a coast its own rhythm, and tells which one a ship saw. */
public final class LightList {
    public static final int NONE = -1;

    private static final int NOT_THERE = -2;
    private static final int CANNOT_TELL = -3;

    private static final int MOST_IN_ROW = 24;
    private static final int LONGEST_SPAN = 600;
    private static final int LONGEST_PERIOD = 1200;
    private static final int PLACES = 100;
    private static final int MOST_LIGHTS = 60;
    private static final int MOST_DIRECTIONS = 8;
    private static final int MOST_NOTICES = 100;
    private static final int MOST_SIGHTINGS = 100;
    private static final int MOST_OFFERS = 12;
    private static final int MOST_GIVEN = 6;
    private static final int MOST_UNDONE = 50;
    private static final int IMAGES = 3;

    private static final int EDGE = 1000;
    private static final int FARTHEST_SHIP = 2000;
    private static final int FARTHEST_REACH = 2000;
    private static final int GREATEST_MARK = 1000;
    private static final int LAST_DAY = 10000;
    private static final int WIDEST_SQUARE = 20;
    private static final int GREATEST_COLOUR_SEEN = 15;
    private static final int GREATEST_ERROR = 50;
    private static final int ALL_FLAGS = 7;
    private static final int MOST_ASKED = 8;

    private static final int SEA = 2000;
    private static final int FINEST_GRID = 20;
    private static final int COARSEST_GRID = 200;

    private static final int FIXED = 0;
    private static final int FLASH = 1;
    private static final int GROUP = 2;
    private static final int MORSE = 3;
    private static final int SECTOR = 4;
    private static final int SISTER = 5;
    private static final int HOLDS_MARK = 7;

    private static final int OUT = 0;
    private static final int CHANGED = 1;
    private static final int MOVED = 2;

    private static final int FLOAT_ONE = 0x3F800000;
    private static final int FLOAT_INFINITY = 0x7F800000;
    private static final int FLOAT_TOO_SMALL = 0x38000000;

    private final Row row = new Row();
    private final Past past = new Past();
    private final Coast[] images = new Coast[IMAGES];
    private final Today today = new Today();
    private Coast coast = new Coast();

    private final int[] givenOffers = new int[MOST_GIVEN];
    private int givenCount = 0;

    // Rows that calls fill anew each time, made once because all that a run makes is counted.
    private final int[] candidates = new int[MOST_LIGHTS];
    private final int[] bearingSightings = new int[MOST_SIGHTINGS];
    private final int[] bearingLights = new int[MOST_SIGHTINGS];
    private final int[] offersApart = new int[MOST_OFFERS];

    public LightList() {
        for (int k = 0; k < images.length; k++) {
            images[k] = coast;
        }
    }

    // ---- THE ROW ----

    public int span(int t) {
        if (t < 1 || t > LONGEST_SPAN || row.length >= MOST_IN_ROW) {
            return NONE;
        }
        row.numbers[row.length] = t;
        row.length++;
        return row.length;
    }

    public int tear() {
        int had = row.length;
        row.length = 0;
        return had;
    }

    // ---- The coast ----

    public int light(int place, int kind, int n, int x, int y, int reach, int colour) {
        int number = coast.lights.length;
        if (number >= MOST_LIGHTS || !isFree(place) || !isOnMap(x, y)
                || !isWithin(reach, 1, FARTHEST_REACH) || !isWithin(colour, 1, 3)) {
            return NONE;
        }
        Rhythm rhythm = row.rhythmOfKind(kind, n);
        if (rhythm == null) {
            return NONE;
        }
        Light light = new Light(kind, n, place, rhythm);
        light.stand(x, y, reach, colour);
        Coast next = new Coast(coast);
        next.lights = Coast.longer(coast.lights, light);
        next.put(place, number + 1);
        row.length = 0;
        actDone(next);
        return number;
    }

    public boolean mark(int place, int number) {
        if (!isFree(place) || !isWithin(number, 0, GREATEST_MARK)) {
            return false;
        }
        Coast next = new Coast(coast);
        next.put(place, -1 - number);
        actDone(next);
        return true;
    }

    public boolean clear(int place) {
        if (!isPlace(place) || coast.places[place] >= 0) {
            return false;
        }
        Coast next = new Coast(coast);
        next.put(place, 0);
        actDone(next);
        return true;
    }

    public int holds(int place) {
        if (!isPlace(place)) {
            return NONE;
        }
        int held = coast.places[place];
        if (held < 0) {
            return HOLDS_MARK;
        }
        return isLight(held - 1) ? coast.lights[held - 1].kind + 1 : 0;
    }

    public int number(int place) {
        if (!isPlace(place)) {
            return NONE;
        }
        int held = coast.places[place];
        return held < 0 ? -1 - held : held - 1;
    }

    public int direct(int place, int dx, int dy, int colour) {
        if (!isPlace(place)) {
            return NONE;
        }
        int number = coast.places[place] - 1;
        if (!isLight(number) || coast.lights[number].kind != SECTOR) {
            return NOT_THERE;
        }
        Light sector = coast.lights[number];
        if (!isWay(dx, dy) || !isWithin(colour, 1, 3)
                || sector.directions.length >= MOST_DIRECTIONS || sector.hasLike(dx, dy)) {
            return NONE;
        }
        Light directed = new Light(sector, new Direction(dx, dy, colour));
        Coast next = new Coast(coast);
        next.lights = coast.lights.clone();
        next.lights[number] = directed;
        actDone(next);
        return directed.directions.length;
    }

    public int haze(int bits) {
        Coast next = new Coast(coast);
        next.haze = hundredthsOf(bits);
        actDone(next);
        return next.haze;
    }

    public int notice(int light, int what, int x, int y, int from, int until, int known) {
        int number = coast.notices.length;
        if (number >= MOST_NOTICES || !isLight(light) || !isDay(from) || !isDay(known)
                || until != NONE && (until <= from || until > LAST_DAY)) {
            return NONE;
        }
        if (!canBeTold(light, what, x, y)) {
            return NONE;
        }
        Notice notice = new Notice(light, what, from, until, known);
        notice.x = x;
        notice.y = y;
        if (what == CHANGED) {
            notice.rhythm = row.rhythmOfKind(FLASH, 0);
            row.length = 0;
        }
        Coast next = new Coast(coast);
        next.notices = Coast.longer(coast.notices, notice);
        actDone(next);
        return number;
    }

    public boolean days(int day, int known) {
        if (!isDay(day) || !isDay(known)) {
            return false;
        }
        Coast next = new Coast(coast);
        next.day = day;
        next.known = known;
        actDone(next);
        return true;
    }

    // ---- A LIGHT as it is on DAY, as KNOWN ----

    public int lit(int light) {
        if (!isLight(light)) {
            return NONE;
        }
        return today.lit[light] ? 1 : 0;
    }

    public int of(int light, int what) {
        if (!isLight(light)) {
            return NONE;
        }
        switch (what) {
            case 0: return today.rhythms[light].period;
            case 1: return today.rhythms[light].spans.length;
            case 2: return today.xs[light];
            case 3: return today.ys[light];
            case 4: return today.reaches[light];
            case 5: return coast.lights[light].kind;
            case 6: return coast.lights[light].place;
            case 7: return coast.lights[light].directions.length;
            default: return NONE;
        }
    }

    public int spanOf(int light, int i) {
        if (!isLight(light) || i < 0 || i >= today.rhythms[light].spans.length) {
            return NONE;
        }
        return today.rhythms[light].spans[i];
    }

    public int at(int light, int t, int x, int y) {
        if (!isLight(light) || t < 0 || !isWithin(x, -FARTHEST_SHIP, FARTHEST_SHIP)
                || !isWithin(y, -FARTHEST_SHIP, FARTHEST_SHIP)) {
            return NONE;
        }
        if (!today.isSeen(light, x, y)) {
            return 0;
        }
        Light seen = coast.lights[light];
        if (today.rhythms[light].isLightAt(t)) {
            return seen.colourTo(x - today.xs[light], y - today.ys[light]);
        }
        return seen.colourOfSister();
    }

    // ---- SIGHTINGS ----

    public int sight(int x, int y, int r, int colour, int error, int flags) {
        int number = coast.sightings.length;
        if (number >= MOST_SIGHTINGS || !isOnMap(x, y) || !isWithin(r, 0, WIDEST_SQUARE)
                || !isWithin(colour, 1, GREATEST_COLOUR_SEEN) || !isError(error)
                || !isWithin(flags, 0, ALL_FLAGS)) {
            return NONE;
        }
        // Of an empty row nothing is CUT, so flags that say so can't be.
        if (row.length == 0 && flags > Sighting.FIRST_LIGHT) {
            return NONE;
        }
        Sighting sighting = new Sighting(x, y, r, colour, error, flags, row.copied());
        Coast next = new Coast(coast);
        next.sightings = Coast.longer(coast.sightings, sighting);
        row.length = 0;
        actDone(next);
        return number;
    }

    public boolean bear(int sighting, int dx, int dy) {
        if (!isSighting(sighting) || !isWay(dx, dy)) {
            return false;
        }
        Coast next = new Coast(coast);
        next.sightings = coast.sightings.clone();
        next.sightings[sighting] = new Sighting(coast.sightings[sighting], dx, dy);
        actDone(next);
        return true;
    }

    public int fits(int sighting, int light) {
        if (!isSighting(sighting) || !isLight(light)) {
            return NONE;
        }
        return coast.sightings[sighting].matches(today.rhythms[light]) ? 1 : 0;
    }

    public int which(int sighting) {
        if (!isSighting(sighting)) {
            return NONE;
        }
        return gatherCandidates(coast.sightings[sighting]);
    }

    public int one(int sighting, int k) {
        if (!isSighting(sighting)) {
            return NONE;
        }
        int count = gatherCandidates(coast.sightings[sighting]);
        return k >= 0 && k < count ? candidates[k] : NONE;
    }

    public int sure(int sighting) {
        if (!isSighting(sighting)) {
            return NONE;
        }
        int count = gatherCandidates(coast.sightings[sighting]);
        return count == 1 ? candidates[0] : NONE;
    }

    public int ask(int sighting) {
        if (!isSighting(sighting)) {
            return NONE;
        }
        Sighting counted = coast.sightings[sighting];
        int count = gatherCandidates(counted);
        if (count < 2) {
            return 0;
        }
        if (counted.isLastCut() || count > MOST_ASKED || isSomeFixed(count)) {
            return CANNOT_TELL;
        }
        int latest = 0;
        for (int a = 0; a < count; a++) {
            for (int b = a + 1; b < count; b++) {
                int parted = latestParting(counted, today.rhythms[candidates[a]], today.rhythms[candidates[b]]);
                if (parted == NONE) {
                    return NOT_THERE;
                }
                latest = Math.max(latest, parted);
            }
        }
        return latest;
    }

    // ---- BEARINGS ----

    public int cross(int g) {
        if (!isGrid(g)) {
            return NONE;
        }
        int bearings = gatherBearings();
        int side = squaresAcross(g);
        int count = 0;
        int last = 0;
        for (int j = 0; j < side; j++) {
            for (int i = 0; i < side; i++) {
                int refusing = firstRefusing(bearings, g, i, j);
                if (refusing == NONE) {
                    count++;
                } else {
                    // The last square to go tells the SIGHTING with which none is left.
                    last = Math.max(last, refusing);
                }
            }
        }
        return count > 0 ? count : NOT_THERE - last;
    }

    public int square(int g, int k) {
        if (!isGrid(g) || k < 0) {
            return NONE;
        }
        int bearings = gatherBearings();
        int side = squaresAcross(g);
        int before = 0;
        for (int j = 0; j < side; j++) {
            for (int i = 0; i < side; i++) {
                if (firstRefusing(bearings, g, i, j) == NONE) {
                    if (before == k) {
                        return i + 1000 * j;
                    }
                    before++;
                }
            }
        }
        return NONE;
    }

    // ---- GIVING ----

    public boolean water(int x, int y) {
        if (!isOnMap(x, y)) {
            return false;
        }
        Coast next = new Coast(coast);
        next.waterX = x;
        next.waterY = y;
        actDone(next);
        return true;
    }

    public int offer() {
        int number = coast.offers.length;
        if (number >= MOST_OFFERS) {
            return NONE;
        }
        Rhythm offered = row.rhythmOfKind(FLASH, 0);
        if (offered == null) {
            return NONE;
        }
        Coast next = new Coast(coast);
        next.offers = Coast.longer(coast.offers, offered);
        row.length = 0;
        actDone(next);
        return number;
    }

    public int apart(int a, int b, int error) {
        if (!isLight(a) || !isLight(b) || a == b || !isError(error)) {
            return NONE;
        }
        return areApart(today.rhythms[a], today.rhythms[b], error) ? 1 : 0;
    }

    public int check(int error) {
        if (!isError(error)) {
            return NONE;
        }
        int lights = coast.lights.length;
        for (int a = 0; a < lights; a++) {
            if (!isSeenAtWater(a)) {
                continue;
            }
            for (int b = a + 1; b < lights; b++) {
                if (isSeenAtWater(b) && !areApart(today.rhythms[a], today.rhythms[b], error)) {
                    return 64 * a + b;
                }
            }
        }
        return NOT_THERE;
    }

    public int give(int n, int error) {
        if (!isWithin(n, 1, MOST_GIVEN) || !isError(error)) {
            return NONE;
        }
        gatherOffersApart(error);
        int best = 0;
        int bestSum = NOT_THERE;
        int sets = 1 << coast.offers.length;
        for (int set = 1; set < sets; set++) {
            if (Integer.bitCount(set) != n || !isApartWithin(set)) {
                continue;
            }
            int sum = periodsOf(set);
            if (best == 0 || sum < bestSum || sum == bestSum && comesFirst(set, best)) {
                best = set;
                bestSum = sum;
            }
        }
        if (best != 0) {
            rememberGiven(best);
        }
        return bestSum;
    }

    public int given(int k) {
        return k >= 0 && k < givenCount ? givenOffers[k] : NONE;
    }

    // ---- What was ----

    public int undo(int n) {
        if (n < 0 || n > past.count) {
            return NONE;
        }
        if (n > 0) {
            become(past.takeBack(n));
        }
        return n;
    }

    public boolean keep(int k) {
        if (k < 0 || k >= IMAGES) {
            return false;
        }
        images[k] = coast;
        return true;
    }

    public boolean back(int k) {
        if (k < 0 || k >= IMAGES) {
            return false;
        }
        become(images[k]);
        past.count = 0;
        return true;
    }

    public int about(int what) {
        switch (what) {
            case 0: return coast.lights.length;
            case 1: return coast.notices.length;
            case 2: return coast.sightings.length;
            case 3: return coast.offers.length;
            case 4: return row.length;
            case 5: return coast.day;
            case 6: return coast.known;
            case 7: return coast.haze;
            case 8: return past.count;
            case 9: return coast.waterX;
            case 10: return coast.waterY;
            default: return NONE;
        }
    }

    // ---- Acts ----

    private void actDone(Coast next) {
        past.remember(coast);
        become(next);
    }

    private void become(Coast next) {
        coast = next;
        today.settle(next);
    }

    // ---- What can be ----

    private static boolean isWithin(int value, int least, int greatest) {
        return value >= least && value <= greatest;
    }

    private static boolean isOnMap(int x, int y) {
        return isWithin(x, -EDGE, EDGE) && isWithin(y, -EDGE, EDGE);
    }

    private static boolean isWay(int dx, int dy) {
        return isOnMap(dx, dy) && (dx != 0 || dy != 0);
    }

    private static boolean isDay(int day) {
        return isWithin(day, 0, LAST_DAY);
    }

    private static boolean isError(int error) {
        return isWithin(error, 0, GREATEST_ERROR);
    }

    private static boolean isGrid(int g) {
        return isWithin(g, FINEST_GRID, COARSEST_GRID) && g % 2 == 0;
    }

    private static boolean isPlace(int place) {
        return isWithin(place, 0, PLACES - 1);
    }

    private boolean isFree(int place) {
        return isPlace(place) && coast.places[place] == 0;
    }

    private boolean isLight(int light) {
        return light >= 0 && light < coast.lights.length;
    }

    private boolean isSighting(int sighting) {
        return sighting >= 0 && sighting < coast.sightings.length;
    }

    private boolean canBeTold(int light, int what, int x, int y) {
        if (what == MOVED) {
            return isOnMap(x, y);
        }
        if (x != 0 || y != 0) {
            return false;
        }
        return what == OUT
                || what == CHANGED && coast.lights[light].kind != FIXED && row.rhythmOfKind(FLASH, 0) != null;
    }

    /** The float is put together by hand, as the library's way from bits to float is not ours to use. */
    private static int hundredthsOf(int bits) {
        if (bits < 0 || bits > FLOAT_INFINITY) {
            return 0;
        }
        if (bits > FLOAT_ONE) {
            return 100;
        }
        if (bits < FLOAT_TOO_SMALL) {
            return 0;
        }
        float h = (float) ((bits & 0x7FFFFF) | 0x800000);
        // Halving is exact here: the exponents left are far from the smallest ones.
        for (int exponent = bits >> 23; exponent < 150; exponent++) {
            h = h / 2.0f;
        }
        return (int) (h * 100.0f);
    }

    // ---- What a SIGHTING can be ----

    private int gatherCandidates(Sighting sighting) {
        int count = 0;
        for (int light = 0; light < coast.lights.length; light++) {
            if (today.lit[light] && sighting.matches(today.rhythms[light]) && isShownTo(sighting, light)) {
                candidates[count] = light;
                count++;
            }
        }
        return count;
    }

    private boolean isShownTo(Sighting sighting, int number) {
        int nearestX = Math.max(sighting.x - sighting.r, Math.min(sighting.x + sighting.r, today.xs[number]));
        int nearestY = Math.max(sighting.y - sighting.r, Math.min(sighting.y + sighting.r, today.ys[number]));
        if (!today.isSeen(number, nearestX, nearestY)) {
            return false;
        }
        Light light = coast.lights[number];
        if (light.directions.length == 0) {
            // Without DIRECTIONS the colour is the same from every place.
            return light.colourTo(0, 0) == sighting.colour;
        }
        // Spares the look at every place of the SQUARE for a colour that is nowhere to be seen.
        if (!light.hasColour(sighting.colour)) {
            return false;
        }
        for (int y = sighting.y - sighting.r; y <= sighting.y + sighting.r; y++) {
            for (int x = sighting.x - sighting.r; x <= sighting.x + sighting.r; x++) {
                if (today.isSeen(number, x, y)
                        && light.colourTo(x - today.xs[number], y - today.ys[number]) == sighting.colour) {
                    return true;
                }
            }
        }
        return false;
    }

    private boolean isSomeFixed(int count) {
        for (int k = 0; k < count; k++) {
            if (coast.lights[candidates[k]].kind == FIXED) {
                return true;
            }
        }
        return false;
    }

    /** The latest tenth at which the two part, of all ways to go on behind what was counted; NONE if some never do. */
    private static int latestParting(Sighting counted, Rhythm a, Rhythm b) {
        int latest = 0;
        for (int i = 0; i < a.spans.length; i++) {
            if (!counted.canBeFollowedBy(a, i)) {
                continue;
            }
            for (int j = 0; j < b.spans.length; j++) {
                if (counted.canBeFollowedBy(b, j)) {
                    int parted = parting(a, i, b, j);
                    if (parted == NONE) {
                        return NONE;
                    }
                    latest = Math.max(latest, parted);
                }
            }
        }
        return latest;
    }

    /** Both begin a SPAN, so they part where the first two SPANS of unlike length do; NONE if there are none. */
    private static int parting(Rhythm a, int i, Rhythm b, int j) {
        if (i % 2 != j % 2) {
            return 1;
        }
        // After this many SPANS both are at their beginnings again.
        int enough = a.spans.length * b.spans.length;
        int together = 0;
        for (int k = 0; k < enough; k++) {
            int spanA = a.spanRound(i + k);
            int spanB = b.spanRound(j + k);
            if (spanA != spanB) {
                return together + Math.min(spanA, spanB) + 1;
            }
            together += spanA;
        }
        return NONE;
    }

    // ---- Where the ship can be ----

    private int gatherBearings() {
        int count = 0;
        for (int number = 0; number < coast.sightings.length; number++) {
            Sighting sighting = coast.sightings[number];
            if (sighting.hasBearing() && gatherCandidates(sighting) == 1) {
                bearingSightings[count] = number;
                bearingLights[count] = candidates[0];
                count++;
            }
        }
        return count;
    }

    private static int squaresAcross(int g) {
        return g > 0 ? (SEA + g - 1) / g : 0;
    }

    /** The first SIGHTING for which the ship can't be in the middle of a square; NONE if it can be for all. */
    private int firstRefusing(int bearings, int g, int i, int j) {
        int x = -EDGE + g * i + g / 2;
        int y = -EDGE + g * j + g / 2;
        for (int k = 0; k < bearings; k++) {
            Sighting sighting = coast.sightings[bearingSightings[k]];
            int vx = today.xs[bearingLights[k]] - x;
            int vy = today.ys[bearingLights[k]] - y;
            if (!sighting.isNear(x, y, g) || !sighting.isInBearing(vx, vy)) {
                return bearingSightings[k];
            }
        }
        return NONE;
    }

    // ---- APART ----

    private boolean isSeenAtWater(int light) {
        return today.isSeen(light, coast.waterX, coast.waterY);
    }

    private static boolean areApart(Rhythm a, Rhythm b, int error) {
        if (a.isFixed() || b.isFixed()) {
            return !a.isFixed() || !b.isFixed();
        }
        return !a.isTwiceIn(b, error) && !b.isTwiceIn(a, error);
    }

    /** For each OFFER the set, in bits, of those it is APART from; without itself if a LIGHT is too like it. */
    private void gatherOffersApart(int error) {
        Rhythm[] offers = coast.offers;
        for (int a = 0; a < offers.length; a++) {
            offersApart[a] = isApartFromSeen(offers[a], error) ? 1 << a : 0;
            for (int b = 0; b < a; b++) {
                if (areApart(offers[a], offers[b], error)) {
                    offersApart[a] |= 1 << b;
                    offersApart[b] |= 1 << a;
                }
            }
        }
    }

    private boolean isApartFromSeen(Rhythm offer, int error) {
        for (int light = 0; light < coast.lights.length; light++) {
            if (isSeenAtWater(light) && !areApart(offer, today.rhythms[light], error)) {
                return false;
            }
        }
        return true;
    }

    private boolean isApartWithin(int set) {
        for (int offer = 0; offer < coast.offers.length; offer++) {
            if ((set >> offer & 1) != 0 && (offersApart[offer] & set) != set) {
                return false;
            }
        }
        return true;
    }

    private int periodsOf(int set) {
        int sum = 0;
        for (int offer = 0; offer < coast.offers.length; offer++) {
            if ((set >> offer & 1) != 0) {
                sum += coast.offers[offer].period;
            }
        }
        return sum;
    }

    /** Of two sets of like size the one that has the least number in which they differ comes first. */
    private static boolean comesFirst(int set, int other) {
        int differing = set ^ other;
        return (set & differing & -differing) != 0;
    }

    private void rememberGiven(int set) {
        givenCount = 0;
        for (int offer = 0; offer < MOST_OFFERS && givenCount < MOST_GIVEN; offer++) {
            if ((set >> offer & 1) != 0) {
                givenOffers[givenCount] = offer;
                givenCount++;
            }
        }
    }

    // ---- The parts ----

    /** THE ROW, and what it can be taken as. */
    private static final class Row {
        final int[] numbers = new int[MOST_IN_ROW];
        int length = 0;

        int[] copied() {
            return Arrays.copyOf(numbers, length);
        }

        /** What a LIGHT of this KIND shows by THE ROW; null if THE ROW, n or the PERIOD can't be so. */
        Rhythm rhythmOfKind(int kind, int n) {
            int[] spans = spansOfKind(kind, n);
            if (spans == null) {
                return null;
            }
            Rhythm rhythm = new Rhythm(spans);
            return rhythm.period <= LONGEST_PERIOD ? rhythm : null;
        }

        private int[] spansOfKind(int kind, int n) {
            boolean isCharacter = length >= 2 && length % 2 == 0;
            switch (kind) {
                case FIXED: return length == 0 && n == 0 ? copied() : null;
                case FLASH:
                case SECTOR: return isCharacter && n == 0 ? copied() : null;
                case GROUP: return length == 3 && isWithin(n, 2, 8) ? group(n) : null;
                case MORSE: return length == 2 && isWithin(n, 2, 127) ? morse(n) : null;
                case SISTER: return isCharacter && isWithin(n, 1, 3) ? copied() : null;
                default: return null;
            }
        }

        private int[] group(int flashes) {
            int[] spans = new int[2 * flashes];
            for (int i = 0; i + 1 < spans.length; i += 2) {
                spans[i] = numbers[0];
                spans[i + 1] = i + 2 < spans.length ? numbers[1] : numbers[2];
            }
            return spans;
        }

        private int[] morse(int code) {
            int signs = 0;
            for (int rest = code; rest > 1; rest = rest / 2) {
                signs++;
            }
            int[] spans = new int[2 * signs];
            for (int k = 0; k < signs; k++) {
                boolean isLong = (code >> (signs - 1 - k) & 1) != 0;
                spans[2 * k] = isLong ? 3 * numbers[0] : numbers[0];
                spans[2 * k + 1] = k + 1 < signs ? numbers[0] : numbers[1];
            }
            return spans;
        }
    }

    /** A CHARACTER; or, without SPANS, what a FIXED LIGHT shows. */
    private static final class Rhythm {
        final int[] spans;
        final int period;

        Rhythm(int[] spans) {
            int sum = 0;
            for (int i = 0; i < spans.length; i++) {
                sum += spans[i];
            }
            this.spans = spans;
            this.period = spans.length == 0 ? 1 : sum;
        }

        boolean isFixed() {
            return spans.length == 0;
        }

        int spanRound(int i) {
            return spans.length > 0 ? spans[Math.floorMod(i, spans.length)] : 0;
        }

        boolean isLightAt(int t) {
            int left = period > 0 ? t % period : 0;
            for (int i = 0; i < spans.length; i++) {
                if (left < spans[i]) {
                    return i % 2 == 0;
                }
                left -= spans[i];
            }
            return true;
        }

        /** Whether the TWO PERIODS of this one fit the other one. */
        boolean isTwiceIn(Rhythm other, int error) {
            for (int start = 0; start < other.spans.length; start += 2) {
                if (isTwiceFrom(other, start, error)) {
                    return true;
                }
            }
            return false;
        }

        private boolean isTwiceFrom(Rhythm other, int start, int error) {
            for (int i = 0; i < 2 * spans.length; i++) {
                if (Math.abs(other.spanRound(start + i) - spanRound(i)) > error) {
                    return false;
                }
            }
            return true;
        }
    }

    /** A way out from a SECTOR, from which on it shows a colour. */
    private static final class Direction {
        final int dx;
        final int dy;
        final int colour;

        Direction(int dx, int dy, int colour) {
            this.dx = dx;
            this.dy = dy;
            this.colour = colour;
        }

        /** Above 0 if this lies behind the other way, going round from (1, 0) by (0, 1); 0 if it is like it. */
        int orderTo(int otherX, int otherY) {
            boolean isLate = dy < 0 || dy == 0 && dx < 0;
            boolean isOtherLate = otherY < 0 || otherY == 0 && otherX < 0;
            if (isLate != isOtherLate) {
                return isLate ? 1 : -1;
            }
            return dy * otherX - dx * otherY;
        }
    }

    /** A LIGHT as it was told. It is never changed once it stands on a coast. */
    private static final class Light {
        final int kind;
        final int n;
        final int place;
        final Rhythm rhythm;
        /** In order round. */
        final Direction[] directions;
        int x = 0;
        int y = 0;
        int reach = 1;
        int colour = 1;

        Light(int kind, int n, int place, Rhythm rhythm) {
            this.kind = kind;
            this.n = n;
            this.place = place;
            this.rhythm = rhythm;
            this.directions = new Direction[0];
        }

        Light(Light old, Direction added) {
            this.kind = old.kind;
            this.n = old.n;
            this.place = old.place;
            this.rhythm = old.rhythm;
            this.x = old.x;
            this.y = old.y;
            this.reach = old.reach;
            this.colour = old.colour;
            this.directions = withAdded(old.directions, added);
        }

        void stand(int atX, int atY, int toReach, int inColour) {
            x = atX;
            y = atY;
            reach = toReach;
            colour = inColour;
        }

        boolean hasLike(int dx, int dy) {
            for (int i = 0; i < directions.length; i++) {
                if (directions[i].orderTo(dx, dy) == 0) {
                    return true;
                }
            }
            return false;
        }

        boolean hasColour(int wanted) {
            for (int i = 0; i < directions.length; i++) {
                if (directions[i].colour == wanted) {
                    return true;
                }
            }
            return colour == wanted;
        }

        int colourOfSister() {
            return kind == SISTER ? 4 * n : 0;
        }

        /** THE COLOUR to a ship in this direction (ship less light). */
        int colourTo(int dx, int dy) {
            if (directions.length == 0 || dx == 0 && dy == 0) {
                return colour + colourOfSister();
            }
            int shown = directions[directions.length - 1].colour;
            for (int i = 0; i < directions.length; i++) {
                if (directions[i].orderTo(dx, dy) > 0) {
                    break;
                }
                shown = directions[i].colour;
            }
            return shown;
        }

        private static Direction[] withAdded(Direction[] old, Direction added) {
            Direction[] all = new Direction[old.length + 1];
            int before = 0;
            for (int i = 0; i < old.length; i++) {
                boolean isBefore = old[i].orderTo(added.dx, added.dy) < 0;
                all[isBefore ? i : i + 1] = old[i];
                before += isBefore ? 1 : 0;
            }
            all[before] = added;
            return all;
        }
    }

    /** A NOTICE; x and y count if it is MOVED, the rhythm if it is CHANGED. */
    private static final class Notice {
        final int light;
        final int what;
        final int from;
        final int until;
        final int known;
        int x = 0;
        int y = 0;
        Rhythm rhythm = null;

        Notice(int light, int what, int from, int until, int known) {
            this.light = light;
            this.what = what;
            this.from = from;
            this.until = until;
            this.known = known;
        }

        boolean isInForce(int day, int knownOn) {
            return known <= knownOn && from <= day && (until == NONE || day < until);
        }
    }

    /** A SIGHTING. It is never changed: a BEARING makes another one in its place. */
    private static final class Sighting {
        static final int FIRST_LIGHT = 1;
        static final int FIRST_CUT = 2;
        static final int LAST_CUT = 4;

        final int x;
        final int y;
        final int r;
        final int colour;
        final int error;
        final int flags;
        final int[] counted;
        /** 0, 0 is no direction, so it stands for no BEARING. */
        final int bearX;
        final int bearY;

        Sighting(int x, int y, int r, int colour, int error, int flags, int[] counted) {
            this.x = x;
            this.y = y;
            this.r = r;
            this.colour = colour;
            this.error = error;
            this.flags = flags;
            this.counted = counted;
            this.bearX = 0;
            this.bearY = 0;
        }

        Sighting(Sighting old, int bearX, int bearY) {
            this.x = old.x;
            this.y = old.y;
            this.r = old.r;
            this.colour = old.colour;
            this.error = old.error;
            this.flags = old.flags;
            this.counted = old.counted;
            this.bearX = bearX;
            this.bearY = bearY;
        }

        boolean hasBearing() {
            return bearX != 0 || bearY != 0;
        }

        boolean isLastCut() {
            return (flags & LAST_CUT) != 0;
        }

        boolean matches(Rhythm rhythm) {
            if (counted.length == 0) {
                return true;
            }
            if (rhythm.isFixed()) {
                return counted.length == 1 && flags == ALL_FLAGS;
            }
            for (int start = firstParity(); start < rhythm.spans.length; start += 2) {
                if (matchesFrom(rhythm, start)) {
                    return true;
                }
            }
            return false;
        }

        /** Whether SPAN i can come behind the last counted one. */
        boolean canBeFollowedBy(Rhythm rhythm, int i) {
            if (counted.length == 0) {
                return true;
            }
            if (rhythm.isFixed()) {
                return false;
            }
            int start = Math.floorMod(i - counted.length, rhythm.spans.length);
            return start % 2 == firstParity() && matchesFrom(rhythm, start);
        }

        private int firstParity() {
            return (flags & FIRST_LIGHT) != 0 ? 0 : 1;
        }

        private boolean matchesFrom(Rhythm rhythm, int start) {
            for (int i = 0; i < counted.length; i++) {
                int longer = rhythm.spanRound(start + i) - counted[i];
                if (longer < -error || longer > error && !isCut(i)) {
                    return false;
                }
            }
            return true;
        }

        private boolean isCut(int i) {
            return i == 0 && (flags & FIRST_CUT) != 0 || i == counted.length - 1 && (flags & LAST_CUT) != 0;
        }

        boolean isNear(int placeX, int placeY, int wider) {
            return Math.abs(placeX - x) <= r + wider && Math.abs(placeY - y) <= r + wider;
        }

        boolean isInBearing(int vx, int vy) {
            if (vx == 0 && vy == 0) {
                return false;
            }
            return 16 * Math.abs(bearX * vy - bearY * vx) <= bearX * vx + bearY * vy;
        }
    }

    /**
     * All that an IMAGE has. It is never changed once it is the coast of the office: an act makes the
     * next one, so what was is kept by keeping the old one.
     */
    private static final class Coast {
        /** 0: nothing; above 0: a LIGHT's number and 1; below 0: -1 less a MARK's number. */
        int[] places;
        Light[] lights;
        Notice[] notices;
        Sighting[] sightings;
        Rhythm[] offers;
        int haze = 0;
        int day = 0;
        int known = 0;
        int waterX = 0;
        int waterY = 0;

        Coast() {
            places = new int[PLACES];
            lights = new Light[0];
            notices = new Notice[0];
            sightings = new Sighting[0];
            offers = new Rhythm[0];
        }

        Coast(Coast old) {
            places = old.places;
            lights = old.lights;
            notices = old.notices;
            sightings = old.sightings;
            offers = old.offers;
            haze = old.haze;
            day = old.day;
            known = old.known;
            waterX = old.waterX;
            waterY = old.waterY;
        }

        void put(int place, int held) {
            places = places.clone();
            if (place >= 0 && place < places.length) {
                places[place] = held;
            }
        }

        static Light[] longer(Light[] old, Light added) {
            Light[] all = new Light[old.length + 1];
            System.arraycopy(old, 0, all, 0, old.length);
            all[old.length] = added;
            return all;
        }

        static Notice[] longer(Notice[] old, Notice added) {
            Notice[] all = new Notice[old.length + 1];
            System.arraycopy(old, 0, all, 0, old.length);
            all[old.length] = added;
            return all;
        }

        static Sighting[] longer(Sighting[] old, Sighting added) {
            Sighting[] all = new Sighting[old.length + 1];
            System.arraycopy(old, 0, all, 0, old.length);
            all[old.length] = added;
            return all;
        }

        static Rhythm[] longer(Rhythm[] old, Rhythm added) {
            Rhythm[] all = new Rhythm[old.length + 1];
            System.arraycopy(old, 0, all, 0, old.length);
            all[old.length] = added;
            return all;
        }
    }

    /** The LIGHTS of a coast as they are on its DAY, as KNOWN; reckoned anew whenever the coast is another one. */
    private static final class Today {
        final boolean[] lit = new boolean[MOST_LIGHTS];
        final int[] xs = new int[MOST_LIGHTS];
        final int[] ys = new int[MOST_LIGHTS];
        final int[] reaches = new int[MOST_LIGHTS];
        final Rhythm[] rhythms = new Rhythm[MOST_LIGHTS];
        private final int[] movedFrom = new int[MOST_LIGHTS];
        private final int[] changedFrom = new int[MOST_LIGHTS];

        void settle(Coast coast) {
            for (int i = 0; i < coast.lights.length && i < MOST_LIGHTS; i++) {
                Light light = coast.lights[i];
                lit[i] = true;
                xs[i] = light.x;
                ys[i] = light.y;
                reaches[i] = light.reach * (100 - coast.haze) / 100;
                rhythms[i] = light.rhythm;
                movedFrom[i] = NONE;
                changedFrom[i] = NONE;
            }
            for (int i = 0; i < coast.notices.length; i++) {
                Notice notice = coast.notices[i];
                if (notice.isInForce(coast.day, coast.known)) {
                    apply(notice);
                }
            }
        }

        /** NOTICES come here by number, so of like days the later one counts. */
        private void apply(Notice notice) {
            int light = notice.light;
            if (light < 0 || light >= MOST_LIGHTS) {
                return;
            }
            if (notice.what == OUT) {
                lit[light] = false;
            } else if (notice.what == MOVED && notice.from >= movedFrom[light]) {
                movedFrom[light] = notice.from;
                xs[light] = notice.x;
                ys[light] = notice.y;
            } else if (notice.what == CHANGED && notice.rhythm != null && notice.from >= changedFrom[light]) {
                changedFrom[light] = notice.from;
                rhythms[light] = notice.rhythm;
            }
        }

        boolean isSeen(int light, int x, int y) {
            int dx = x - xs[light];
            int dy = y - ys[light];
            return lit[light] && dx * dx + dy * dy <= reaches[light] * reaches[light];
        }
    }

    /** The coasts before the latest acts, in a ring, so that the oldest one goes when a new one comes. */
    private static final class Past {
        private final Coast[] coasts = new Coast[MOST_UNDONE];
        private int next = 0;
        int count = 0;

        void remember(Coast coast) {
            coasts[next] = coast;
            next = (next + 1) % MOST_UNDONE;
            count = Math.min(count + 1, MOST_UNDONE);
        }

        /** The coast before the latest acts; they must be there, and one at least. */
        Coast takeBack(int acts) {
            next = Math.floorMod(next - acts, MOST_UNDONE);
            count -= acts;
            return coasts[next];
        }
    }
}
