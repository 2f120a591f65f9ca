/**
 * A park in which a flute must be heard above all bands together, wherever the flute player's widow may walk.
 *
 * The words in capitals are those of the document. Sets of bands and of places are held by bits.
 */
public final class FlutePark {
    public static final int NONE = -1, UNKNOWN = -2, OUTSIDE = -3, NOT = -4, FULL = -5;

    private static final int HOURS = 12;
    private static final int MOST_PLACES = 36;
    private static final int MOST_BANDS = 6;
    private static final int MOST_SEEN = 8;
    private static final int MOST_KEPT = 2;
    private static final int MOST_STEPS = 99;
    private static final int MARGIN_OF_NO_WALK = 999;
    private static final int MARGIN_SHIFT = 1000;
    private static final int TENTHS = 10;

    private final Text text = new Text();
    private final Reader reader = new Reader();

    private final Park told = new Park();
    private final Hearing hearing = new Hearing();

    // What is only tried (a text not yet done, a band elsewhere) is done to these, so that nothing told changes.
    private final Park draft = new Park();
    private final Hearing trial = new Hearing();

    private int licences;
    private int where;
    private int hourNow;

    private final int[] keptLicences = new int[MOST_KEPT];
    private final int[] keptWhere = new int[MOST_KEPT];
    private final int[] keptHour = new int[MOST_KEPT];

    private final int[] seenPlace = new int[MOST_SEEN];
    private final int[] seenHour = new int[MOST_SEEN];
    private final int[] seenHeard = new int[MOST_SEEN];
    private int seenCount;

    private final long[] heardPlaces = new long[HOURS];

    public FlutePark() {
        hearing.listen(told);
        startAnew();
    }

    // ---- what is told

    public int write(long bytes, int n) {
        if (n < 1 || n > 8) {
            return OUTSIDE;
        }
        if (text.length + n > Text.MOST_BYTES) {
            return FULL;
        }
        for (int i = 0; i < n; i++) {
            text.add((int) (bytes >> 8 * i & 255));
        }
        return text.length;
    }

    public int erase() {
        return text.clear();
    }

    public int fault() {
        return reader.readLines(text, told, draft);
    }

    public int park() {
        if (reader.readLines(text, told, draft) != NONE) {
            return NOT;
        }
        told.become(draft);
        hearing.listen(told);
        text.clear();
        startAnew();
        return reader.lines;
    }

    public int place(int place, int what) {
        if (!told.hasPlace(place)) {
            return UNKNOWN;
        }
        switch (what) {
            case 0:
                return bitOf(told.isOfWalk(place));
            case 1:
                return bitOf(told.hasHedge(place));
            case 2:
                return told.bandsAt(place);
            case 3:
                return hearing.fluteAt(place);
            default:
                return OUTSIDE;
        }
    }

    public int band(int band, int what) {
        if (!told.hasBand(band)) {
            return UNKNOWN;
        }
        if (what < 0 || what > Park.TRAITS) {
            return OUTSIDE;
        }
        return what == Park.TRAITS ? bitOf(isIn(band, licences)) : told.trait(band, what);
    }

    public int as(int band, int kind) {
        if (!told.hasBand(band)) {
            return UNKNOWN;
        }
        if (kind < 0 || kind > 4) {
            return OUTSIDE;
        }
        if (!told.isOfKind(band, kind)) {
            return NOT;
        }
        return hearing.noiseOf(1 << band, told.trait(band, Park.PLACE), hourNow);
    }

    public int licence(int band, int is) {
        if (!told.hasBand(band)) {
            return UNKNOWN;
        }
        if (!isBit(is)) {
            return OUTSIDE;
        }
        int had = bitOf(isIn(band, licences));
        licences = is == 1 ? licences | 1 << band : licences & ~(1 << band);
        return had;
    }

    // ---- hours

    public int sound(int band, int place, int hour) {
        if (!told.hasBand(band) || !told.hasPlace(place)) {
            return UNKNOWN;
        }
        if (!isHour(hour)) {
            return OUTSIDE;
        }
        return hearing.noiseOf(1 << band, place, hour);
    }

    public int noise(int place, int hour) {
        if (!told.hasPlace(place)) {
            return UNKNOWN;
        }
        if (!isHour(hour)) {
            return OUTSIDE;
        }
        return hearing.noiseOf(licences, place, hour);
    }

    public int step(int place) {
        if (!told.hasPlace(place)) {
            return UNKNOWN;
        }
        if (where == NONE || told.far(where, place) > 1 || !told.isOfWalk(place)) {
            return NOT;
        }
        where = place;
        hourNow = hourBehind(hourNow);
        return bitOf(hearing.isHeard(licences, where, hourNow));
    }

    public int keep(int k) {
        if (k < 0 || k >= MOST_KEPT) {
            return UNKNOWN;
        }
        keptLicences[k] = licences;
        keptWhere[k] = where;
        keptHour[k] = hourNow;
        return hourNow;
    }

    public int back(int k) {
        if (k < 0 || k >= MOST_KEPT) {
            return UNKNOWN;
        }
        if (keptHour[k] == NONE) {
            return NOT;
        }
        licences = keptLicences[k];
        where = keptWhere[k];
        hourNow = keptHour[k];
        return hourNow;
    }

    // ---- foretold

    public int first(int what) {
        if (what < 0 || what > 2) {
            return OUTSIDE;
        }
        for (int hour = 0; hour < HOURS; hour++) {
            for (int place = 0; place < told.places(); place++) {
                if (told.isOfWalk(place) && !hearing.isHeard(licences, place, hour)) {
                    return firstPart(what, place, hour);
                }
            }
        }
        return NONE;
    }

    public int most(int what) {
        if (!isBit(what)) {
            return OUTSIDE;
        }
        int bestWorth = NONE;
        int bestSet = NONE;
        for (int set = 0; set < told.bandSets(); set++) {
            int worth = told.worthOf(set);
            if (worth > bestWorth && hearing.holds(set)) {
                bestWorth = worth;
                bestSet = set;
            }
        }
        return what == 0 ? bestWorth : bestSet;
    }

    public long stands(int band) {
        if (!told.hasBand(band)) {
            return UNKNOWN;
        }
        return holdingTraits(band, Park.PLACE, told.places());
    }

    public int sides(int band) {
        if (!told.hasBand(band)) {
            return UNKNOWN;
        }
        if (told.trait(band, Park.KIND) != Park.BRASS) {
            return NOT;
        }
        return (int) holdingTraits(band, Park.SIDE, 4);
    }

    public long hedged(int what) {
        if (!isBit(what)) {
            return OUTSIDE;
        }
        draft.become(told);
        long best = NONE;
        for (int set = 0; set < told.bandSets(); set++) {
            long more = told.placesOf(set) & ~told.hedges;
            if ((best == NONE || areFewer(more, best)) && holdsWithHedges(more)) {
                best = more;
            }
        }
        if (best == NONE) {
            return NONE;
        }
        return what == 0 ? Long.bitCount(best) : best;
    }

    public int margin() {
        return hearing.marginOf(licences) + MARGIN_SHIFT;
    }

    public int price(int band) {
        if (!told.hasBand(band)) {
            return UNKNOWN;
        }
        return hearing.marginOf(licences & ~(1 << band)) - hearing.marginOf(licences | 1 << band);
    }

    public int way(int place) {
        if (!told.hasPlace(place)) {
            return UNKNOWN;
        }
        if (where == NONE) {
            return NOT;
        }
        for (int hour = 0; hour < HOURS; hour++) {
            heardPlaces[hour] = hearing.heardOfWalk(licences, hour);
        }
        long reached = 1L << where;
        int hour = hourNow;
        for (int steps = 0; steps <= MOST_STEPS; steps++) {
            reached &= isHour(hour) ? heardPlaces[hour] : 0;
            if ((reached >>> place & 1) == 1) {
                return steps;
            }
            reached = told.around(reached);
            hour = hourBehind(hour);
        }
        return NONE;
    }

    public int wind(int place, int hour, int p, int part) {
        if (!told.hasPlace(place)) {
            return UNKNOWN;
        }
        if (!isHour(hour) || p < 0 || p > TENTHS || !isBit(part)) {
            return OUTSIDE;
        }
        int room = hearing.fluteAt(place) - hearing.noiseOf(licences, place, hour);
        int above = 0;
        int below = 0;
        for (int doubled = 0; doubled < told.bandSets(); doubled++) {
            if ((doubled & ~licences) == 0) {
                int weight = weightOf(doubled, p);
                below += weight;
                above += room > hearing.noiseOf(doubled, place, hour) ? weight : 0;
            }
        }
        int shared = greatestDivisor(below, above);
        return shared < 1 ? 0 : (part == 0 ? above : below) / shared;
    }

    // ---- what was seen

    public int seen(int place, int hour, int heard) {
        if (!told.hasPlace(place)) {
            return UNKNOWN;
        }
        if (!isHour(hour) || !isBit(heard)) {
            return OUTSIDE;
        }
        if (seenCount < 0 || seenCount >= MOST_SEEN) {
            return FULL;
        }
        seenPlace[seenCount] = place;
        seenHour[seenCount] = hour;
        seenHeard[seenCount] = heard;
        seenCount++;
        return seenCount;
    }

    public int forget() {
        int had = seenCount;
        seenCount = 0;
        return had;
    }

    public int played(int what) {
        if (!isBit(what)) {
            return OUTSIDE;
        }
        int sets = 0;
        int inAll = NONE;
        for (int set = 0; set < told.bandSets(); set++) {
            if (isAsSeen(set)) {
                sets++;
                // NONE has all bits, so that the first set stays as it is.
                inAll &= set;
            }
        }
        return what == 0 ? sets : inAll;
    }

    public int count(int what) {
        switch (what) {
            case 0:
                return told.columns;
            case 1:
                return told.rows;
            case 2:
                return told.fall;
            case 3:
                return told.bands;
            case 4:
                return licences;
            case 5:
                return hourNow;
            case 6:
                return where;
            case 7:
                return seenCount;
            case 8:
                return text.length;
            default:
                return OUTSIDE;
        }
    }

    // ---- what the calls share

    private void startAnew() {
        hourNow = 0;
        licences = told.bandSets() - 1;
        where = told.leastOfWalk();
        seenCount = 0;
        for (int k = 0; k < MOST_KEPT; k++) {
            keptHour[k] = NONE;
        }
    }

    private int firstPart(int what, int place, int hour) {
        if (what == 0) {
            return hour;
        }
        return what == 1 ? place : hearing.loudestOf(licences, place, hour);
    }

    /** The values of a band's trait, from 0 on, by which it HOLDS with its licence. */
    private long holdingTraits(int band, int trait, int values) {
        draft.become(told);
        trial.listen(draft);
        long holding = 0;
        for (int value = 0; value < values; value++) {
            draft.setTrait(band, trait, value);
            trial.listenToBand(draft, band);
            if (trial.holds(licences | 1 << band)) {
                holding |= 1L << value;
            }
        }
        return holding;
    }

    private boolean holdsWithHedges(long more) {
        draft.hedges = told.hedges | more;
        trial.listen(draft);
        return trial.holds(licences);
    }

    private static boolean areFewer(long places, long others) {
        int less = Long.bitCount(others) - Long.bitCount(places);
        return less > 0 || less == 0 && places < others;
    }

    private boolean isAsSeen(int set) {
        for (int i = 0; i < seenCount && i < MOST_SEEN; i++) {
            if (bitOf(hearing.isHeard(set, seenPlace[i], seenHour[i])) != seenHeard[i]) {
                return false;
            }
        }
        return true;
    }

    /** In how many of ten to the power of the licences just these bands are doubled. */
    private int weightOf(int doubled, int p) {
        int weight = 1;
        for (int band = 0; band < MOST_BANDS; band++) {
            if (isIn(band, licences)) {
                weight *= isIn(band, doubled) ? p : TENTHS - p;
            }
        }
        return weight;
    }

    private static int greatestDivisor(int a, int b) {
        // Of numbers up to a million no pair takes more than some thirty turns.
        for (int turn = 0; turn < 100 && b != 0; turn++) {
            int rest = a % b;
            a = b;
            b = rest;
        }
        return a;
    }

    private static int hourBehind(int hour) {
        return hour + 1 < HOURS ? hour + 1 : 0;
    }

    private static boolean isHour(int hour) {
        return hour >= 0 && hour < HOURS;
    }

    private static boolean isBit(int number) {
        return number == 0 || number == 1;
    }

    private static boolean isIn(int band, int set) {
        return (set >> band & 1) == 1;
    }

    private static int bitOf(boolean is) {
        return is ? 1 : 0;
    }

    /** What texts have told: the places, the flute, the bands. */
    private static final class Park {
        static final int BRASS = 1, CHOIR = 2, DRUM = 3;
        static final int KIND = 0, PLACE = 1, LOUD = 2, FIRST_HOUR = 3, LAST_HOUR = 4, WORTH = 5, SIDE = 6, TRAITS = 7;
        private static final int UP = 0, RIGHT = 1, DOWN = 2;

        int columns;
        int rows;
        int fall;
        int flutePlace;
        int fluteLoud;
        int bands;
        long walk;
        long hedges;
        private final int[] traits = new int[MOST_BANDS * TRAITS];

        Park() {
            lay(4, 4);
        }

        /** All is as at first, but for how many columns and rows there are. */
        void lay(int newColumns, int newRows) {
            columns = newColumns;
            rows = newRows;
            fall = 2;
            flutePlace = 0;
            fluteLoud = 50;
            bands = 0;
            walk = 0;
            hedges = 0;
        }

        void become(Park other) {
            columns = other.columns;
            rows = other.rows;
            fall = other.fall;
            flutePlace = other.flutePlace;
            fluteLoud = other.fluteLoud;
            bands = other.bands;
            walk = other.walk;
            hedges = other.hedges;
            System.arraycopy(other.traits, 0, traits, 0, traits.length);
        }

        int places() {
            return columns * rows;
        }

        boolean hasPlace(int place) {
            return place >= 0 && place < places();
        }

        boolean isOfWalk(int place) {
            return (walk >>> place & 1) == 1;
        }

        boolean hasHedge(int place) {
            return (hedges >>> place & 1) == 1;
        }

        void addHedge(int place) {
            hedges |= 1L << place;
        }

        void addWalk(int from, int to) {
            for (int place = from; place <= to && place < MOST_PLACES; place++) {
                walk |= 1L << place;
            }
        }

        int leastOfWalk() {
            for (int place = 0; place < places(); place++) {
                if (isOfWalk(place)) {
                    return place;
                }
            }
            return NONE;
        }

        int column(int place) {
            return columns < 1 ? 0 : place % columns;
        }

        int row(int place) {
            return columns < 1 ? 0 : place / columns;
        }

        int far(int place, int other) {
            return Math.abs(column(place) - column(other)) + Math.abs(row(place) - row(other));
        }

        /** These places and all that are next to one of them; some bits beyond the park may be among them. */
        long around(long places) {
            long leftmost = 0;
            for (int place = 0; place < places(); place++) {
                leftmost |= column(place) == 0 ? 1L << place : 0;
            }
            long rightmost = leftmost << columns - 1;
            return places | places << columns | places >>> columns
                    | (places & ~rightmost) << 1 | (places & ~leftmost) >>> 1;
        }

        boolean hasBand(int band) {
            return band >= 0 && band < bands;
        }

        int bandSets() {
            return 1 << bands;
        }

        void addBand(int kind, int place, int loud, int firstHour, int lastHour) {
            int band = bands;
            if (band >= MOST_BANDS) {
                return;
            }
            bands++;
            setTrait(band, KIND, kind);
            setTrait(band, PLACE, place);
            setTrait(band, LOUD, loud);
            setTrait(band, FIRST_HOUR, firstHour);
            setTrait(band, LAST_HOUR, lastHour);
            setTrait(band, WORTH, 1);
            setTrait(band, SIDE, UP);
        }

        int trait(int band, int what) {
            return isTrait(band, what) ? traits[band * TRAITS + what] : 0;
        }

        void setTrait(int band, int what, int value) {
            if (isTrait(band, what)) {
                traits[band * TRAITS + what] = value;
            }
        }

        private static boolean isTrait(int band, int what) {
            return band >= 0 && band < MOST_BANDS && what >= 0 && what < TRAITS;
        }

        /** Whether a band is such a kind as `as` counts them, in which a kind may be over others. */
        boolean isOfKind(int band, int kind) {
            int own = trait(band, KIND);
            if (kind == 0) {
                return true;
            }
            return kind == 1 ? own != DRUM : own == kind - 1;
        }

        int bandsAt(int place) {
            int set = 0;
            for (int band = 0; band < bands; band++) {
                set |= trait(band, PLACE) == place ? 1 << band : 0;
            }
            return set;
        }

        long placesOf(int set) {
            long places = 0;
            for (int band = 0; band < bands; band++) {
                places |= isIn(band, set) ? 1L << trait(band, PLACE) : 0;
            }
            return places;
        }

        int worthOf(int set) {
            int worth = 0;
            for (int band = 0; band < bands; band++) {
                worth += isIn(band, set) ? trait(band, WORTH) : 0;
            }
            return worth;
        }

        int fluteSound(int place) {
            return Math.max(0, fluteLoud - fall * far(flutePlace, place));
        }

        /** SOUND of a band at a place in the hours in which it plays. */
        int bandSound(int band, int place) {
            int kind = trait(band, KIND);
            int own = trait(band, PLACE);
            if (kind == BRASS && !liesToSide(trait(band, SIDE), own, place)) {
                return 0;
            }
            int full = Math.max(0, trait(band, LOUD) - fall * far(own, place));
            return kind != DRUM && hasHedge(own) ? full / 2 : full;
        }

        private boolean liesToSide(int side, int from, int place) {
            switch (side) {
                case UP:
                    return row(place) < row(from);
                case RIGHT:
                    return column(place) > column(from);
                case DOWN:
                    return row(place) > row(from);
                default:
                    return column(place) < column(from);
            }
        }

        boolean plays(int band, int hour) {
            if (hour < trait(band, FIRST_HOUR) || hour > trait(band, LAST_HOUR)) {
                return false;
            }
            return trait(band, KIND) != CHOIR || hour % 2 == 0;
        }
    }

    /** How loud all is in a park: reckoned once, so that many sets of bands can be judged by it. */
    private static final class Hearing {
        private int places;
        private long walk;
        private final int[] fluteSounds = new int[MOST_PLACES];
        private final int[] bandSounds = new int[MOST_BANDS * MOST_PLACES];
        private final int[] playing = new int[HOURS];

        void listen(Park park) {
            places = Math.min(park.places(), MOST_PLACES);
            walk = park.walk;
            for (int place = 0; place < places; place++) {
                fluteSounds[place] = park.fluteSound(place);
            }
            for (int band = 0; band < park.bands; band++) {
                listenToBand(park, band);
            }
        }

        void listenToBand(Park park, int band) {
            if (band < 0 || band >= MOST_BANDS) {
                return;
            }
            for (int place = 0; place < places; place++) {
                bandSounds[band * MOST_PLACES + place] = park.bandSound(band, place);
            }
            for (int hour = 0; hour < HOURS; hour++) {
                playing[hour] &= ~(1 << band);
                playing[hour] |= park.plays(band, hour) ? 1 << band : 0;
            }
        }

        int fluteAt(int place) {
            return place >= 0 && place < MOST_PLACES ? fluteSounds[place] : 0;
        }

        /** SOUNDS of a set of bands together. */
        int noiseOf(int set, int place, int hour) {
            return isHour(hour) ? soundsOf(set & playing[hour], place) : 0;
        }

        private int soundsOf(int set, int place) {
            int sum = 0;
            if (place >= 0 && place < MOST_PLACES) {
                for (int band = 0; band < MOST_BANDS; band++) {
                    sum += isIn(band, set) ? bandSounds[band * MOST_PLACES + place] : 0;
                }
            }
            return sum;
        }

        boolean isHeard(int set, int place, int hour) {
            return fluteAt(place) > noiseOf(set, place, hour);
        }

        long heardOfWalk(int set, int hour) {
            long heard = 0;
            for (int place = 0; place < places; place++) {
                if ((walk >>> place & 1) == 1 && isHeard(set, place, hour)) {
                    heard |= 1L << place;
                }
            }
            return heard;
        }

        int loudestOf(int set, int place, int hour) {
            int loudest = NONE;
            int most = 0;
            for (int band = 0; band < MOST_BANDS; band++) {
                int sound = noiseOf(set & 1 << band, place, hour);
                if (sound > most) {
                    most = sound;
                    loudest = band;
                }
            }
            return loudest;
        }

        /** MARGIN, if this set of bands has licences and no others. */
        int marginOf(int set) {
            int margin = MARGIN_OF_NO_WALK;
            long judged = 0;
            for (int hour = 0; hour < HOURS; hour++) {
                int sounding = set & playing[hour];
                // Hours in which the same bands sound are alike: one of them is enough.
                if ((judged >>> sounding & 1) == 0) {
                    judged |= 1L << sounding;
                    margin = Math.min(margin, marginBy(sounding));
                }
            }
            return margin;
        }

        private int marginBy(int sounding) {
            int margin = MARGIN_OF_NO_WALK;
            for (int place = 0; place < places; place++) {
                if ((walk >>> place & 1) == 1) {
                    margin = Math.min(margin, fluteAt(place) - soundsOf(sounding, place));
                }
            }
            return margin;
        }

        boolean holds(int set) {
            return marginOf(set) > 0;
        }
    }

    /** THE TEXT, and that TOKEN of it which was taken last. */
    private static final class Text {
        static final int MOST_BYTES = 200;

        int length;
        private final int[] bytes = new int[MOST_BYTES];
        private int tokenStart;
        private int tokenEnd;

        void add(int value) {
            if (length >= 0 && length < MOST_BYTES) {
                bytes[length] = value;
                length++;
            }
        }

        int clear() {
            int had = length;
            length = 0;
            return had;
        }

        void rewind() {
            tokenEnd = 0;
        }

        /** Takes the next token; at the end it is empty, and stands at the text's length. */
        void takeToken() {
            tokenStart = tokenEnd;
            while (tokenStart < length && byteAt(tokenStart) == ' ') {
                tokenStart++;
            }
            tokenEnd = tokenStart < length ? tokenStart + 1 : tokenStart;
            while (tokenEnd < length && areOfOneRow(byteAt(tokenStart), byteAt(tokenEnd))) {
                tokenEnd++;
            }
        }

        int tokenPlace() {
            return tokenStart;
        }

        boolean isAtEnd() {
            return tokenStart >= length;
        }

        boolean isToken(String signs) {
            if (tokenEnd - tokenStart != signs.length()) {
                return false;
            }
            for (int i = 0; i < signs.length(); i++) {
                if (byteAt(tokenStart + i) != signs.charAt(i)) {
                    return false;
                }
            }
            return true;
        }

        /** The token as a number; NONE if it is no row of one or two digits. */
        int number() {
            int digits = tokenEnd - tokenStart;
            if (digits < 1 || digits > 2) {
                return NONE;
            }
            int value = 0;
            for (int i = tokenStart; i < tokenEnd; i++) {
                if (!isDigit(byteAt(i))) {
                    return NONE;
                }
                value = value * 10 + byteAt(i) - '0';
            }
            return value;
        }

        private int byteAt(int i) {
            return i >= 0 && i < length && i < MOST_BYTES ? bytes[i] : NONE;
        }

        private static boolean areOfOneRow(int one, int other) {
            return isDigit(one) && isDigit(other) || isLetter(one) && isLetter(other);
        }

        private static boolean isDigit(int value) {
            return value >= '0' && value <= '9';
        }

        private static boolean isLetter(int value) {
            return value >= 'a' && value <= 'z';
        }
    }

    /** Reads a text's LINES, and does each before the next is read, since that one is judged by what is told then. */
    private static final class Reader {
        private static final int PARK = 0, FALL = 1, FLUTE = 2, PLAIN = 3, DRUM = 6, WORTH = 7, SIDE = 8, HEDGE = 9,
                WALK = 10, STILL = 11, KINDS_OF_LINES = 12;
        private static final int[] NUMBERS = {2, 1, 2, 4, 4, 4, 4, 2, 2, 1, 2, 0};
        private static final int MOST_LINES = 12;

        int lines;
        private final int[] numbers = new int[4];

        /** Does the lines to a park that begins as the one before; answers the place of the FAULT, or NONE. */
        int readLines(Text text, Park before, Park park) {
            park.become(before);
            text.rewind();
            for (lines = 1; lines <= MOST_LINES; lines++) {
                if (!readLine(text, park)) {
                    return text.tokenPlace();
                }
                text.takeToken();
                if (text.isAtEnd()) {
                    return NONE;
                }
                if (!text.isToken(";")) {
                    return text.tokenPlace();
                }
            }
            // A ; behind the last line that may be.
            return text.tokenPlace();
        }

        private boolean readLine(Text text, Park park) {
            text.takeToken();
            int line = lineOf(text);
            if (line < 0 || line >= NUMBERS.length || isOfBand(line) && park.bands >= MOST_BANDS) {
                return false;
            }
            for (int i = 0; i < NUMBERS[line] && i < numbers.length; i++) {
                text.takeToken();
                numbers[i] = text.number();
                if (!canStand(park, line, i)) {
                    return false;
                }
            }
            doLine(park, line);
            return true;
        }

        private static int lineOf(Text text) {
            for (int line = 0; line < KINDS_OF_LINES; line++) {
                if (text.isToken(wordOf(line))) {
                    return line;
                }
            }
            return NONE;
        }

        private static String wordOf(int line) {
            switch (line) {
                case PARK:
                    return "park";
                case FALL:
                    return "fall";
                case FLUTE:
                    return "flute";
                case PLAIN:
                    return "plain";
                case PLAIN + 1:
                    return "brass";
                case PLAIN + 2:
                    return "choir";
                case DRUM:
                    return "drum";
                case WORTH:
                    return "worth";
                case SIDE:
                    return "side";
                case HEDGE:
                    return "hedge";
                case WALK:
                    return "walk";
                default:
                    return "still";
            }
        }

        private static boolean isOfBand(int line) {
            return line >= PLAIN && line <= DRUM;
        }

        /** Whether a line's number i is within its bounds, those ahead of it in the line being so. */
        private boolean canStand(Park park, int line, int i) {
            int number = i >= 0 && i < numbers.length ? numbers[i] : NONE;
            if (number < leastNumber(line, i) || number > greatestNumber(park, line, i)) {
                return false;
            }
            return line != HEDGE || !park.hasHedge(number);
        }

        private int leastNumber(int line, int i) {
            if (line == PARK) {
                return 2;
            }
            if (line == FALL) {
                return 1;
            }
            if (line == WALK && i == 1) {
                return numbers[0];
            }
            return isOfBand(line) && i == 3 ? numbers[2] : 0;
        }

        private static int greatestNumber(Park park, int line, int i) {
            switch (line) {
                case PARK:
                    return 6;
                case FALL:
                    return 9;
                case WORTH:
                    return i == 0 ? park.bands - 1 : 99;
                case SIDE:
                    return i == 0 ? park.bands - 1 : 3;
                case HEDGE:
                case WALK:
                    return park.places() - 1;
                default:
                    if (i == 0) {
                        return park.places() - 1;
                    }
                    return i == 1 ? 99 : HOURS - 1;
            }
        }

        private void doLine(Park park, int line) {
            switch (line) {
                case PARK:
                    park.lay(numbers[0], numbers[1]);
                    break;
                case FALL:
                    park.fall = numbers[0];
                    break;
                case FLUTE:
                    park.flutePlace = numbers[0];
                    park.fluteLoud = numbers[1];
                    break;
                case WORTH:
                    park.setTrait(numbers[0], Park.WORTH, numbers[1]);
                    break;
                case SIDE:
                    park.setTrait(numbers[0], Park.SIDE, numbers[1]);
                    break;
                case HEDGE:
                    park.addHedge(numbers[0]);
                    break;
                case WALK:
                    park.addWalk(numbers[0], numbers[1]);
                    break;
                case STILL:
                    park.bands = 0;
                    break;
                default:
                    park.addBand(line - PLAIN, numbers[0], numbers[1], numbers[2], numbers[3]);
                    break;
            }
        }
    }
}
