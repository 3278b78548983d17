/** Up a rope ladder in a swell. The document (../shared/DOC.md) tells what each call answers. */
public final class RopeLadder {
    public static final int NONE = -1, BAD = -2, NOT = -3, FULL = -4;

    private static final int TENTHS = 400, LAST_TENTH = 399, MOST_SPAN = 100;
    private static final int MOST_SWELLS = 6, SWELLS_BYTES = 23, ROLL_BYTES = 3, MOST_BEGINS = 98;
    private static final int LEAST_LENGTH = 2, MOST_LENGTH = 99;
    private static final int LEVEL = 0, TOPS = 1, RISES = 2, FALLS = 3;
    private static final int UPRIGHT = 0, OUT = 1, IN = 2;
    private static final int STEP_STILL = 0, STEP_TOPPED = 1, STEP_EARLY = 2, STEP_LATE = 3, STEP_AIR = 4;
    private static final int SIXTEENTHS = 16, MOST_RUNGS = 12, MOST_FOOT = 999;
    // 16 to the 13th: a FALL and at most twelve BANGS, of sixteen each.
    private static final int WHOLE_HALVINGS = 52;
    private static final long WHOLE = 1L << WHOLE_HALVINGS;
    private static final int MOST_CRESTS = 99, FIRST_CRESTS = 7;
    private static final int MOST_SEEN = 8, MOST_SEEN_HEIGHT = 3000, MOST_CLIMBERS = 20;
    private static final int SHEETS = 4, MOST_ITEMS = 48, BYTES = 0, SHORTS = 1, INTS = 2;
    private static final int FOUND_NULL = 1, FOUND_INDEX = 2, FOUND_CAST = 3, FOUND_STORE = 4, FOUND_SIZE = 5;
    private static final int LEAST_INT = 1 << 31, NO_LIMIT = 2147483647;
    private static final long LEAST_LONG = 1L << 63;
    private static final int[] DIGEST_TENTHS = {0, 1, 37, 200, 399};

    private final Text swellsText;
    private final Text rollText;
    private final Sea sea;
    private final Ship ship;
    private final Settings settings;
    private final Climb climbing;
    private final Sightings sightings;
    private final Lots lots;
    private final Sheet[] sheets;
    private int finding;

    public RopeLadder() {
        swellsText = new Text(SWELLS_BYTES, MOST_SWELLS);
        rollText = new Text(ROLL_BYTES, 1);
        sea = new Sea(swellsText);
        ship = new Ship(rollText);
        settings = new Settings();
        climbing = new Climb(sea, ship, settings);
        sightings = new Sightings();
        lots = new Lots();
        sheets = new Sheet[SHEETS];
        for (int s = 0; s < sheets.length; s++) {
            sheets[s] = new Sheet();
        }
    }

    // ---- swells, settings

    public int type(int text, int b) {
        Text typed = textOf(text);
        if (typed == null || b < 0 || b > 255) {
            return BAD;
        }
        if (typed.isFull()) {
            return FULL;
        }
        typed.append(b);
        takeUpTexts();
        return typed.size;
    }

    public int wipe(int text) {
        Text wiped = textOf(text);
        if (wiped == null) {
            return BAD;
        }
        int had = wiped.size;
        wiped.shorten(0);
        takeUpTexts();
        return had;
    }

    public int undo(int text) {
        Text undone = textOf(text);
        if (undone == null) {
            return BAD;
        }
        if (undone.size == 0) {
            return NOT;
        }
        undone.shorten(undone.size - 1);
        takeUpTexts();
        return undone.size;
    }

    public int fault(int text) {
        Text asked = textOf(text);
        return asked == null ? BAD : asked.faultPlace;
    }

    public int swell(int swell, int what) {
        if (!isSwell(swell) || !isEither(what)) {
            return BAD;
        }
        return what == 0 ? swellsText.heightOf(swell) : swellsText.lengthOf(swell);
    }

    public int roll(int what) {
        if (!isEither(what)) {
            return BAD;
        }
        if (rollText.number == 0) {
            return NONE;
        }
        return what == 0 ? rollText.heightOf(0) : rollText.lengthOf(0);
    }

    public int begins(int swell, int v) {
        if (swell < 0 || swell >= MOST_SWELLS || v < 0 || v > MOST_BEGINS) {
            return BAD;
        }
        int was = sea.beginOf(swell);
        sea.beginAt(swell, v);
        return was;
    }

    public int lee(int what, int v) {
        if (!isEither(what) || !isTenth(v)) {
            return BAD;
        }
        int was = what == 0 ? sea.leeFrom : sea.leeMany;
        if (what == 0) {
            sea.putLee(v, sea.leeMany);
        } else {
            sea.putLee(sea.leeFrom, v);
        }
        return was;
    }

    public int set(int what, int v) {
        if (!settings.allows(what, v)) {
            return BAD;
        }
        int was = settings.of(what);
        settings.change(what, v);
        return was;
    }

    // ---- heights

    public int high(int tenth) {
        return isTenth(tenth) ? sea.heightAt(tenth) : BAD;
    }

    public int does(int tenth) {
        return isTenth(tenth) ? sea.moveAt(tenth) : BAD;
    }

    public int leans(int tenth) {
        return isTenth(tenth) ? ship.leanAt(tenth) : BAD;
    }

    public int crest(int tenth, int k) {
        if (!isTenth(tenth) || k < 1 || k > MOST_CRESTS) {
            return BAD;
        }
        return sea.crestFrom(tenth, k);
    }

    public int seventh(int tenth) {
        return isTenth(tenth) ? sea.highestCrestFrom(tenth) : BAD;
    }

    public int lull(int tenth, int many, int what) {
        if (!isTenth(tenth) || !isSpan(many) || !isEither(what)) {
            return BAD;
        }
        int from = sea.lullFrom(tenth, many);
        if (from == NONE || what == 0) {
            return from;
        }
        return sea.spread(from, many, NO_LIMIT);
    }

    // ---- steps, climbs

    public int step(int tenth) {
        return isTenth(tenth) ? stepAt(tenth) : BAD;
    }

    public int fall(int tenth) {
        return isTenth(tenth) ? oddsToFall(tenth) : BAD;
    }

    public int climb(int tenth) {
        if (!isTenth(tenth)) {
            return BAD;
        }
        climbing.goFrom(tenth);
        return climbing.end;
    }

    public int bangs(int tenth) {
        if (!isTenth(tenth)) {
            return BAD;
        }
        climbing.goFrom(tenth);
        return climbing.banged;
    }

    public long safe(int tenth, int what) {
        if (!isTenth(tenth) || !isEither(what)) {
            return LEAST_LONG - BAD;
        }
        long above = chance(tenth);
        long below = WHOLE;
        // WHOLE is a power of two, so that halves alone lead to lowest terms, and 0 to 0 by 1.
        for (int i = 0; i < WHOLE_HALVINGS && above % 2 == 0; i++) {
            above /= 2;
            below /= 2;
        }
        return what == 0 ? above : below;
    }

    public int best(int tenth, int within) {
        if (!isTenth(tenth) || !isSpan(within)) {
            return BAD;
        }
        int best = tenth;
        long greatest = chance(tenth);
        int end = spanEnd(tenth, within);
        for (int t = tenth + 1; t < end; t++) {
            long chance = chance(t);
            if (chance > greatest) {
                best = t;
                greatest = chance;
            }
        }
        return best;
    }

    public int call(int tenth, int within) {
        int best = best(tenth, within);
        if (best < 0) {
            return best;
        }
        int called = best - settings.of(Settings.LAG);
        return called < 0 ? NONE : called;
    }

    public int down(int tenth, int within, int what) {
        if (!isTenth(tenth) || !isSpan(within) || !isEither(what)) {
            return BAD;
        }
        int nearest = tenth;
        int end = spanEnd(tenth, within);
        for (int t = tenth + 1; t < end; t++) {
            if (distanceToFoot(t) < distanceToFoot(nearest)) {
                nearest = t;
            }
        }
        return what == 0 ? nearest : distanceToFoot(nearest);
    }

    public int saves() {
        return sea.savedByLee();
    }

    /**
     * A FOOT of 0 is never in the AIR, so that the least often is not at all: the FEET up to the
     * least height and ARM. Of these the highest one has the fewest TENTHS that stand higher, and
     * so have all FEET down to the greatest height that is not above it.
     */
    public int ladder(int tenth, int many) {
        if (!isTenth(tenth) || !isSpan(many)) {
            return BAD;
        }
        int end = spanEnd(tenth, many);
        int highestFoot = Math.min(MOST_FOOT, sea.leastHeight(tenth, end) + settings.of(Settings.ARM));
        return sea.greatestHeightUpTo(highestFoot, tenth, end);
    }

    // ---- seen, nights

    public int seen(int tenth, int high) {
        if (!isTenth(tenth) || high < 0 || high > MOST_SEEN_HEIGHT) {
            return BAD;
        }
        if (sightings.number >= MOST_SEEN) {
            return FULL;
        }
        sightings.append(tenth, high);
        return sightings.number;
    }

    public int forget() {
        int had = sightings.number;
        sightings.number = 0;
        return had;
    }

    public int read(int s) {
        Sheet sheet = sheetOf(s);
        if (sheet == null) {
            return BAD;
        }
        if (sheet.lost) {
            return find(FOUND_NULL);
        }
        int took = 0;
        for (int i = 0; i + 1 < sheet.size; i += 2) {
            if (seen(sheet.itemAt(i), sheet.itemAt(i + 1)) < 0) {
                return took;
            }
            took++;
        }
        return took;
    }

    public int learn(int swell, int i) {
        if (!isSwell(swell) || i < NONE || i > MOST_LENGTH - LEAST_LENGTH) {
            return BAD;
        }
        int many = 0;
        for (int length = LEAST_LENGTH; length <= MOST_LENGTH; length++) {
            if (allSeenComesOut(swell, length)) {
                if (many == i) {
                    return length;
                }
                many++;
            }
        }
        return i == NONE ? many : NONE;
    }

    public int night(int seed, int n) {
        if (n < 1 || n > MOST_CLIMBERS) {
            return BAD;
        }
        lots.seed = seed;
        int up = 0;
        int from = 0;
        for (int i = 0; i < n; i++) {
            int step = nextStep(from);
            if (step == NONE) {
                return up;
            }
            if (getsUp(step)) {
                up++;
                from = climbing.end;
            } else {
                from = step;
            }
        }
        return up;
    }

    // ---- sheets

    public int sheet(int s, int form, int n) {
        Sheet sheet = sheetOf(s);
        if (sheet == null || !isForm(form) || n > MOST_ITEMS) {
            return BAD;
        }
        if (n < 0) {
            return find(FOUND_SIZE);
        }
        sheet.become(form, n);
        return n;
    }

    public int lose(int s) {
        Sheet sheet = sheetOf(s);
        if (sheet == null) {
            return BAD;
        }
        if (sheet.lost) {
            return find(FOUND_NULL);
        }
        sheet.lost = true;
        return sheet.size;
    }

    public int put(int s, int form, int i, int v) {
        Sheet sheet = sheetOf(s);
        if (sheet == null || !isForm(form)) {
            return BAD;
        }
        int trouble = sheet.troubleAt(form, i);
        if (trouble != 0) {
            return find(trouble);
        }
        sheet.store(i, v);
        return 1;
    }

    public int get(int s, int form, int i) {
        Sheet sheet = sheetOf(s);
        if (sheet == null || !isForm(form)) {
            return LEAST_INT;
        }
        int trouble = sheet.troubleAt(form, i);
        if (trouble != 0) {
            find(trouble);
            return LEAST_INT;
        }
        return sheet.itemAt(i);
    }

    public int copy(int s, int i, int t, int j, int n) {
        Sheet from = sheetOf(s);
        Sheet to = sheetOf(t);
        if (from == null || to == null) {
            return BAD;
        }
        if (from.lost || to.lost) {
            return find(FOUND_NULL);
        }
        if (from.form != to.form) {
            return find(FOUND_STORE);
        }
        if (!from.holds(i, n) || !to.holds(j, n)) {
            return find(FOUND_INDEX);
        }
        to.take(from, i, j, n);
        return 1;
    }

    public int write(int tenth, int s) {
        Sheet sheet = sheetOf(s);
        if (!isTenth(tenth) || sheet == null) {
            return BAD;
        }
        if (sheet.lost) {
            return find(FOUND_NULL);
        }
        int many = Math.min(sheet.size, TENTHS - tenth);
        for (int i = 0; i < many; i++) {
            sheet.store(i, sea.heightAt(tenth + i));
        }
        return many;
    }

    public int count(int what) {
        switch (what) {
            case 0: return swellsText.number;
            case 1: return swellsText.size;
            case 2: return rollText.size;
            case 3: return swellsText.heightsTogether();
            case 4: return sea.crestsInAll();
            case 5: return sightings.number;
            case 6: return settings.of(Settings.FOOT);
            case 7: return sea.greatestHeight();
            case 8: return finding;
            default: return BAD;
        }
    }

    public long digest() {
        long h = 17;
        for (int what = 0; what <= 7; what++) {
            h = 31 * h + count(what);
        }
        h = 31 * h + fault(0);
        h = 31 * h + fault(1);
        for (int swell = 0; swell < swellsText.number; swell++) {
            h = 31 * h + swell(swell, 0);
            h = 31 * h + swell(swell, 1);
            h = 31 * h + learn(swell, NONE);
            h = 31 * h + learn(swell, 0);
        }
        h = 31 * h + roll(0);
        h = 31 * h + roll(1);
        for (int i = 0; i < DIGEST_TENTHS.length; i++) {
            int tenth = DIGEST_TENTHS[i];
            h = 31 * h + high(tenth);
            h = 31 * h + does(tenth);
            h = 31 * h + leans(tenth);
            h = 31 * h + crest(tenth, 2);
            h = 31 * h + seventh(tenth);
            h = 31 * h + lull(tenth, 20, 0);
            h = 31 * h + lull(tenth, 20, 1);
            h = 31 * h + step(tenth);
            h = 31 * h + fall(tenth);
            h = 31 * h + climb(tenth);
            h = 31 * h + bangs(tenth);
            h = 31 * h + safe(tenth, 0);
            h = 31 * h + safe(tenth, 1);
            h = 31 * h + best(tenth, 30);
            h = 31 * h + call(tenth, 30);
            h = 31 * h + down(tenth, 30, 0);
            h = 31 * h + down(tenth, 30, 1);
            h = 31 * h + ladder(tenth, 30);
        }
        h = 31 * h + saves();
        return 31 * h + night(7, 5);
    }

    // ---- what a call may name

    private Text textOf(int text) {
        if (text == 0) {
            return swellsText;
        }
        return text == 1 ? rollText : null;
    }

    private void takeUpTexts() {
        sea.renew();
        ship.renew();
    }

    private Sheet sheetOf(int s) {
        return s >= 0 && s < sheets.length ? sheets[s] : null;
    }

    private boolean isSwell(int swell) {
        return swell >= 0 && swell < swellsText.number;
    }

    private static boolean isEither(int what) {
        return what == 0 || what == 1;
    }

    private static boolean isTenth(int tenth) {
        return tenth >= 0 && tenth <= LAST_TENTH;
    }

    private static boolean isSpan(int many) {
        return many >= 1 && many <= MOST_SPAN;
    }

    private static boolean isForm(int form) {
        return form == BYTES || form == SHORTS || form == INTS;
    }

    /** The TENTH behind the last one of so many, or behind TENTH 399. */
    private static int spanEnd(int tenth, int many) {
        return Math.min(TENTHS, tenth + many);
    }

    private int find(int number) {
        finding = number;
        return -10 - number;
    }

    // ---- steps

    private int stepAt(int tenth) {
        if (settings.of(Settings.FOOT) - sea.heightAt(tenth) > settings.of(Settings.ARM)) {
            return STEP_AIR;
        }
        switch (sea.moveAt(tenth)) {
            case TOPS: return STEP_TOPPED;
            case RISES: return STEP_EARLY;
            case FALLS: return STEP_LATE;
            default: return STEP_STILL;
        }
    }

    private int oddsToFall(int tenth) {
        int odds;
        switch (stepAt(tenth)) {
            case STEP_AIR: return SIXTEENTHS;
            case STEP_TOPPED: odds = settings.of(Settings.TOPPED); break;
            case STEP_EARLY: odds = settings.of(Settings.EARLY); break;
            case STEP_LATE: odds = settings.of(Settings.LATE); break;
            default: odds = settings.of(Settings.STILL); break;
        }
        return Math.min(SIXTEENTHS, odds + settings.of(Settings.WET));
    }

    /** SAFE as so many parts of WHOLE, so that any two can be compared. */
    private long chance(int tenth) {
        climbing.goFrom(tenth);
        if (climbing.end == NONE) {
            return 0;
        }
        long chance = SIXTEENTHS - oddsToFall(tenth);
        int heldOn = SIXTEENTHS - settings.of(Settings.BANGED);
        for (int bang = 0; bang < MOST_RUNGS; bang++) {
            chance *= bang < climbing.banged ? heldOn : SIXTEENTHS;
        }
        return chance;
    }

    private int distanceToFoot(int tenth) {
        return Math.abs(sea.heightAt(tenth) - settings.of(Settings.FOOT));
    }

    // ---- seen, nights

    private boolean allSeenComesOut(int swell, int length) {
        for (int i = 0; i < sightings.number; i++) {
            if (sea.heightWith(swell, length, sightings.tenthOf(i)) != sightings.heightOf(i)) {
                return false;
            }
        }
        return true;
    }

    /** The TENTH in which the next one STEPS; NONE: no more go. */
    private int nextStep(int from) {
        int crest = sea.crestFrom(from, 1);
        if (crest == NONE) {
            return NONE;
        }
        int step = crest + lots.draw(3);
        return step > LAST_TENTH ? NONE : step;
    }

    /** Whether one who STEPS in a TENTH gets up; what climbing tells is that CLIMB then. */
    private boolean getsUp(int step) {
        if (lots.draw(SIXTEENTHS) < oddsToFall(step)) {
            return false;
        }
        climbing.goFrom(step);
        for (int bang = 0; bang < climbing.banged; bang++) {
            if (lots.draw(SIXTEENTHS) < settings.of(Settings.BANGED)) {
                return false;
            }
        }
        return climbing.end != NONE;
    }

    /** A text of swells: its bytes, its FAULT, and the swells that it tells (none by a FAULT). */
    private static final class Text {
        private final int mostBytes;
        private final int mostSwells;
        private final int[] bytes = new int[SWELLS_BYTES];
        private final int[] heights = new int[MOST_SWELLS];
        private final int[] lengths = new int[MOST_SWELLS];
        int size;
        int faultPlace = NONE;
        int number;

        Text(int mostBytes, int mostSwells) {
            this.mostBytes = mostBytes;
            this.mostSwells = mostSwells;
        }

        boolean isFull() {
            return size >= mostBytes;
        }

        void append(int b) {
            if (size >= 0 && size < bytes.length) {
                bytes[size] = b;
                size++;
                understand();
            }
        }

        void shorten(int left) {
            size = left;
            understand();
        }

        int heightOf(int swell) {
            return swell >= 0 && swell < heights.length ? heights[swell] : 0;
        }

        int lengthOf(int swell) {
            return swell >= 0 && swell < lengths.length ? lengths[swell] : 0;
        }

        int heightsTogether() {
            int sum = 0;
            for (int swell = 0; swell < number; swell++) {
                sum += heightOf(swell);
            }
            return sum;
        }

        private void understand() {
            faultPlace = firstFault();
            // A swell is three bytes, and all but the last one have a ; behind them.
            number = faultPlace == NONE ? (size + 1) / 4 : 0;
            for (int swell = 0; swell < heights.length && swell < lengths.length; swell++) {
                boolean told = swell < number;
                heights[swell] = told ? byteAt(4 * swell) - '0' : 0;
                lengths[swell] = told ? twoFiguresAt(4 * swell + 1) : 0;
            }
        }

        private int firstFault() {
            for (int place = 0; place < size; place++) {
                if (!goesOn(place)) {
                    return place;
                }
            }
            return size == 0 || size % 4 == 3 ? NONE : size;
        }

        private boolean goesOn(int place) {
            if (place % 4 == 3) {
                return byteAt(place) == ';';
            }
            if (byteAt(place) < '0' || byteAt(place) > '9') {
                return false;
            }
            if (place % 4 == 0) {
                return place / 4 < mostSwells;
            }
            return place % 4 == 1 || twoFiguresAt(place - 1) >= LEAST_LENGTH;
        }

        private int byteAt(int place) {
            return place >= 0 && place < bytes.length ? bytes[place] : 0;
        }

        private int twoFiguresAt(int place) {
            return 10 * (byteAt(place) - '0') + (byteAt(place + 1) - '0');
        }
    }

    /** How high the CUTTER stands in each TENTH, by SWELLS, BEGINS and LEE. */
    private static final class Sea {
        private final Text swells;
        private final int[] begins = new int[MOST_SWELLS];
        private final int[] withoutLee = new int[TENTHS];
        private final int[] heights = new int[TENTHS];
        int leeFrom;
        int leeMany;

        Sea(Text swells) {
            this.swells = swells;
        }

        int beginOf(int swell) {
            return swell >= 0 && swell < begins.length ? begins[swell] : 0;
        }

        void beginAt(int swell, int begin) {
            if (swell >= 0 && swell < begins.length) {
                begins[swell] = begin;
                renew();
            }
        }

        void putLee(int from, int many) {
            leeFrom = from;
            leeMany = many;
            renew();
        }

        /** All heights anew: they are asked for far more often than what they rest on changes. */
        void renew() {
            for (int tenth = 0; tenth < withoutLee.length; tenth++) {
                withoutLee[tenth] = 0;
            }
            for (int swell = 0; swell < swells.number; swell++) {
                int length = swells.lengthOf(swell);
                for (int tenth = 0; tenth < withoutLee.length; tenth++) {
                    withoutLee[tenth] += alone(swell, length, tenth);
                }
            }
            for (int tenth = 0; tenth < heights.length && tenth < withoutLee.length; tenth++) {
                heights[tenth] = cutByLee(tenth, withoutLee[tenth]);
            }
        }

        /** How high one SWELL is, if its LENGTH is this one. */
        private int alone(int swell, int length, int tenth) {
            if (length < LEAST_LENGTH) {
                return 0;
            }
            int behind = (tenth + beginOf(swell)) % length;
            return swells.heightOf(swell) * Math.min(behind, length - behind);
        }

        private int cutByLee(int tenth, int height) {
            boolean inLee = tenth >= leeFrom && tenth - leeFrom < leeMany;
            return inLee ? height / 2 : height;
        }

        int heightAt(int tenth) {
            return tenth >= 0 && tenth < heights.length ? heights[tenth] : 0;
        }

        private int heightWithoutLee(int tenth) {
            return tenth >= 0 && tenth < withoutLee.length ? withoutLee[tenth] : 0;
        }

        /** How high the CUTTER would stand, if a SWELL were of this LENGTH. */
        int heightWith(int swell, int length, int tenth) {
            int others = heightWithoutLee(tenth) - alone(swell, swells.lengthOf(swell), tenth);
            return cutByLee(tenth, others + alone(swell, length, tenth));
        }

        int moveAt(int tenth) {
            if (tenth <= 0 || tenth >= heights.length - 1) {
                return LEVEL;
            }
            int now = heights[tenth];
            int next = heights[tenth + 1];
            if (next < now) {
                return heights[tenth - 1] <= now ? TOPS : FALLS;
            }
            return next > now ? RISES : LEVEL;
        }

        int crestFrom(int from, int k) {
            int passed = 0;
            for (int tenth = from; tenth < heights.length; tenth++) {
                if (moveAt(tenth) == TOPS) {
                    passed++;
                    if (passed == k) {
                        return tenth;
                    }
                }
            }
            return NONE;
        }

        /** Which of the first seven CRESTS (1 on) is the highest. */
        int highestCrestFrom(int from) {
            int place = NONE;
            int highest = -1;
            int tenth = crestFrom(from, 1);
            for (int k = 1; k <= FIRST_CRESTS && tenth != NONE; k++) {
                if (heightAt(tenth) > highest) {
                    place = k;
                    highest = heightAt(tenth);
                }
                tenth = crestFrom(tenth + 1, 1);
            }
            return place;
        }

        int crestsInAll() {
            int crests = 0;
            for (int tenth = 0; tenth < heights.length; tenth++) {
                if (moveAt(tenth) == TOPS) {
                    crests++;
                }
            }
            return crests;
        }

        int lullFrom(int from, int many) {
            int lull = NONE;
            int least = NO_LIMIT;
            for (int tenth = from; tenth + many <= TENTHS; tenth++) {
                int spread = spread(tenth, many, least);
                if (spread < least) {
                    lull = tenth;
                    least = spread;
                }
            }
            return lull;
        }

        /** By how much heights differ; once that is enough, the TENTHS left are not looked at. */
        int spread(int from, int many, int enough) {
            int least = heightAt(from);
            int greatest = least;
            for (int i = 1; i < many && greatest - least < enough; i++) {
                int height = heightAt(from + i);
                least = Math.min(least, height);
                greatest = Math.max(greatest, height);
            }
            return greatest - least;
        }

        int greatestHeight() {
            return greatestHeightUpTo(NO_LIMIT, 0, TENTHS);
        }

        /** The greatest height that is not above a limit; 0: all are. */
        int greatestHeightUpTo(int limit, int from, int end) {
            int greatest = 0;
            for (int tenth = from; tenth < end; tenth++) {
                int height = heightAt(tenth);
                if (height <= limit && height > greatest) {
                    greatest = height;
                }
            }
            return greatest;
        }

        int leastHeight(int from, int end) {
            int least = heightAt(from);
            for (int tenth = from + 1; tenth < end; tenth++) {
                least = Math.min(least, heightAt(tenth));
            }
            return least;
        }

        int savedByLee() {
            if (leeMany == 0) {
                return NONE;
            }
            int end = Math.min(TENTHS, leeFrom + leeMany);
            int greatest = 0;
            for (int tenth = leeFrom; tenth < end; tenth++) {
                greatest = Math.max(greatest, heightWithoutLee(tenth));
            }
            return greatest - greatestHeightUpTo(NO_LIMIT, leeFrom, end);
        }
    }

    /** How the ship leans, by ROLL. */
    private static final class Ship {
        private final Text roll;
        private int height;
        private int length;

        Ship(Text roll) {
            this.roll = roll;
        }

        /** To be called when ROLL has changed. */
        void renew() {
            height = roll.heightOf(0);
            length = roll.lengthOf(0);
        }

        int leanAt(int tenth) {
            if (height == 0 || length < LEAST_LENGTH) {
                return UPRIGHT;
            }
            int fourfold = 4 * (tenth % length);
            return fourfold < length || fourfold >= 3 * length ? OUT : IN;
        }

        /** The next TENTH from one on in which the ship does not lean OUT, or one behind 399. */
        int notOutFrom(int from) {
            for (int tenth = from; tenth < TENTHS; tenth++) {
                if (leanAt(tenth) != OUT) {
                    return tenth;
                }
            }
            return TENTHS;
        }
    }

    /** The numbers that can be set, by the number that set() has for them. */
    private static final class Settings {
        static final int FOOT = 0, RUNGS = 1, SPACE = 2, ARM = 3;
        static final int TOPPED = 4, EARLY = 5, LATE = 6, STILL = 7, BANGED = 8, WET = 9;
        static final int PACE = 10, LAG = 11;

        private static final int[] FIRST = {20, 9, 3, 5, 0, 2, 3, 1, 1, 1, 2, 1};
        private static final int[] LEAST = {0, 1, 1, 0, 0, 0, 0, 0, 0, 0, 1, 0};
        private static final int[] MOST = {999, 12, 30, 99, 16, 16, 16, 16, 16, 16, 9, 9};

        private final int[] values = new int[FIRST.length];

        Settings() {
            for (int what = 0; what < values.length && what < FIRST.length; what++) {
                values[what] = FIRST[what];
            }
        }

        boolean allows(int what, int v) {
            return what >= 0 && what < LEAST.length && what < MOST.length && v >= LEAST[what] && v <= MOST[what];
        }

        int of(int what) {
            return what >= 0 && what < values.length ? values[what] : 0;
        }

        void change(int what, int v) {
            if (what >= 0 && what < values.length) {
                values[what] = v;
            }
        }
    }

    /** A CLIMB: what the latest goFrom() came to. */
    private static final class Climb {
        private final Sea sea;
        private final Ship ship;
        private final Settings settings;
        /** The TENTH of the last RUNG; NONE: one is CAUGHT. */
        int end = NONE;
        int banged;

        Climb(Sea sea, Ship ship, Settings settings) {
            this.sea = sea;
            this.ship = ship;
            this.settings = settings;
        }

        void goFrom(int start) {
            end = NONE;
            banged = 0;
            int tenth = start;
            int rungs = settings.of(Settings.RUNGS);
            for (int k = 1; k <= rungs; k++) {
                tenth = ship.notOutFrom(tenth + settings.of(Settings.PACE));
                if (tenth > LAST_TENTH || sea.heightAt(tenth) > rungHeight(k)) {
                    return;
                }
                if (ship.leanAt(tenth) == IN) {
                    banged++;
                }
            }
            end = tenth;
        }

        private int rungHeight(int k) {
            return settings.of(Settings.FOOT) + k * settings.of(Settings.SPACE);
        }
    }

    /** All that was SEEN. */
    private static final class Sightings {
        private final int[] tenths = new int[MOST_SEEN];
        private final int[] heights = new int[MOST_SEEN];
        int number;

        void append(int tenth, int height) {
            if (number >= 0 && number < tenths.length && number < heights.length) {
                tenths[number] = tenth;
                heights[number] = height;
                number++;
            }
        }

        int tenthOf(int i) {
            return i >= 0 && i < tenths.length ? tenths[i] : 0;
        }

        int heightOf(int i) {
            return i >= 0 && i < heights.length ? heights[i] : 0;
        }
    }

    /** LOTS by a SEED. */
    private static final class Lots {
        int seed;

        int draw(int m) {
            seed = 1103515245 * seed + 12345;
            return m < 1 ? 0 : (seed >>> 16) % m;
        }
    }

    /** A SHEET; its items stand in ints, whatever its FORM, and are made narrow as they come. */
    private static final class Sheet {
        private final int[] items = new int[MOST_ITEMS];
        boolean lost = true;
        int form;
        int size;

        void become(int newForm, int newSize) {
            lost = false;
            form = newForm;
            size = newSize;
            for (int i = 0; i < items.length; i++) {
                items[i] = 0;
            }
        }

        /** The number of the FINDING that hinders item i as of a FORM; 0: none does. */
        int troubleAt(int treatedAs, int i) {
            if (lost) {
                return FOUND_NULL;
            }
            if (form != treatedAs) {
                return FOUND_CAST;
            }
            return i < 0 || i >= size ? FOUND_INDEX : 0;
        }

        /** Whether there are n items from i on; asked without i and n together, which could wrap. */
        boolean holds(int i, int n) {
            return i >= 0 && n >= 0 && i <= size && n <= size - i;
        }

        int itemAt(int i) {
            return i >= 0 && i < items.length ? items[i] : 0;
        }

        void store(int i, int v) {
            if (i >= 0 && i < items.length) {
                items[i] = narrow(v);
            }
        }

        private int narrow(int v) {
            if (form == BYTES) {
                return (byte) v;
            }
            return form == SHORTS ? (short) v : v;
        }

        /** Items come here as they were, from this very SHEET too: so backwards, where they move up. */
        void take(Sheet from, int i, int j, int n) {
            for (int k = 0; k < n; k++) {
                int next = j > i ? n - 1 - k : k;
                store(j + next, from.itemAt(i + next));
            }
        }
    }
}
