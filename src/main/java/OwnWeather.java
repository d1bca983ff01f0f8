/** A valley in which each has his own weather, and a crowd is a sky. */
public final class OwnWeather {
    public static final int NONE = -1, BAD = -2, NOT = -3, FULL = -4;

    private static final int HOURS = 24;
    private static final int LAST_HOUR = HOURS - 1;
    private static final int EVERY_HOUR = (1 << HOURS) - 1;
    private static final int MOST_PERSONS = 8;
    private static final int MOST_PLACES = 6;
    private static final int BRIGHTS = 10;
    private static final int MOST_GOINGS = 20;
    private static final int MOST_SEEN = 8;
    private static final int MOST_FOGS = 8;
    private static final int SHEETS = 4;
    private static final int FORMS = 3;
    private static final int MOST_ITEMS = 60;
    private static final int SIXTEENTHS = 16;
    private static final int BAD_NEWS = 3;

    private static final int PEOPLE_TEXT = 0;
    private static final int PLACES_TEXT = 1;
    private static final int CALM = 2;

    private static final int FINDING_NULL = 1;
    private static final int FINDING_INDEX = 2;
    private static final int FINDING_CAST = 3;
    private static final int FINDING_STORE = 4;
    private static final int FINDING_SIZE = 5;

    private static final int LEAST_INT = 1 << 31;
    private static final long LEAST_LONG = 1L << 63;

    private static final int[] DIGEST_HOURS = {0, 1, 5, 23};

    private final Listing people;
    private final Listing places;
    private final Told goings;
    private final Told sightings;
    private final Told fogs;
    private final Sheet[] sheets;
    private final Valley asTold;
    private final Valley trial;
    private boolean asToldIsFresh;
    private int latestFinding;

    public OwnWeather() {
        people = new Listing(PEOPLE_TEXT, MOST_PERSONS);
        places = new Listing(PLACES_TEXT, MOST_PLACES);
        goings = new Told(MOST_GOINGS);
        sightings = new Told(MOST_SEEN);
        fogs = new Told(MOST_FOGS);
        sheets = new Sheet[SHEETS];
        for (int s = 0; s < SHEETS; s++) {
            sheets[s] = new Sheet();
        }
        asTold = new Valley(people, places, goings);
        trial = new Valley(people, places, goings);
        asToldIsFresh = false;
        latestFinding = 0;
    }

    // ---- people, places

    public int type(int text, int b) {
        Listing listing = listingOf(text);
        if (listing == null || !isBelow(b, 256)) {
            return BAD;
        }
        if (!listing.hasRoom()) {
            return FULL;
        }
        listing.append(b);
        asToldIsFresh = false;
        return listing.length;
    }

    public int wipe(int text) {
        Listing listing = listingOf(text);
        if (listing == null) {
            return BAD;
        }
        int had = listing.length;
        listing.shorten(0);
        asToldIsFresh = false;
        return had;
    }

    public int undo(int text) {
        Listing listing = listingOf(text);
        if (listing == null) {
            return BAD;
        }
        if (listing.length == 0) {
            return NOT;
        }
        listing.shorten(listing.length - 1);
        asToldIsFresh = false;
        return listing.length;
    }

    public int fault(int text) {
        Listing listing = listingOf(text);
        return listing == null ? BAD : listing.faultAt;
    }

    public int person(int person, int what) {
        if (!isPerson(person) || !isBelow(what, 2)) {
            return BAD;
        }
        return what == 0 ? people.first(person) : people.second(person);
    }

    public int place(int place, int what) {
        if (!isPlace(place) || !isBelow(what, 2)) {
            return BAD;
        }
        return what == 0 ? places.first(place) : places.second(place);
    }

    public int go(int hour, int person, int place) {
        if (!mayBeGoing(hour, person, place)) {
            return BAD;
        }
        if (!goings.hasRoom()) {
            return FULL;
        }
        goings.add(hour, person, place);
        asToldIsFresh = false;
        return goings.size;
    }

    public int back() {
        if (goings.size == 0) {
            return NOT;
        }
        goings.dropLast();
        asToldIsFresh = false;
        return goings.size;
    }

    public int read(int s) {
        Sheet sheet = sheetOf(s);
        if (sheet == null) {
            return BAD;
        }
        if (sheet.isLost()) {
            return finding(FINDING_NULL);
        }
        int taken = 0;
        for (int i = 0; i + 2 < sheet.size; i += 3) {
            if (go(sheet.item(i), sheet.item(i + 1), sheet.item(i + 2)) < 0) {
                break;
            }
            taken++;
        }
        return taken;
    }

    // ---- hours

    public int where(int hour, int person) {
        if (!isHour(hour) || !isPerson(person)) {
            return BAD;
        }
        return valley().placeOf(hour, person);
    }

    public int bright(int hour, int person) {
        if (!isHour(hour) || !isPerson(person)) {
            return BAD;
        }
        return valley().brightnessOf(hour, person);
    }

    public int crowd(int hour, int place) {
        if (!isHour(hour) || !isPlace(place)) {
            return BAD;
        }
        return valley().crowdAt(hour, place);
    }

    public long sky(int hour, int place, int what) {
        if (!isHour(hour) || !isPlace(place) || !isBelow(what, 2)) {
            return refusedLong(BAD);
        }
        int there = valley().crowdAt(hour, place);
        if (there == 0) {
            return refusedLong(NOT);
        }
        return partOfFraction(valley().sumOf(hour, there), Integer.bitCount(there), what);
    }

    public int met(int hour) {
        if (!isHour(hour)) {
            return BAD;
        }
        int bits = 0;
        for (int place = 0; place < places.entries; place++) {
            if (valley().isMet(hour, place)) {
                bits |= 1 << place;
            }
        }
        return bits;
    }

    public int spoilt(int place) {
        if (!isPlace(place)) {
            return BAD;
        }
        int bits = 0;
        for (int hour = 0; hour < HOURS; hour++) {
            if (valley().crowdAt(hour, place) != 0 && !valley().isMet(hour, place)) {
                bits |= 1 << hour;
            }
        }
        return bits;
    }

    public int lightning(int what) {
        if (!isBelow(what, 2)) {
            return BAD;
        }
        for (int hour = 0; hour < HOURS; hour++) {
            int struck = valley().leastStruck(hour);
            if (struck != NONE) {
                return what == 0 ? hour : struck;
            }
        }
        return NONE;
    }

    public int settles() {
        int settled = LAST_HOUR;
        for (int hour = LAST_HOUR - 1; hour >= 0; hour--) {
            if (!valley().isAlike(hour, LAST_HOUR)) {
                break;
            }
            settled = hour;
        }
        return settled;
    }

    // ---- plans

    public int send(int place, int hour, int what) {
        if (!isPlace(place) || !isHour(hour) || !isBelow(what, 2)) {
            return BAD;
        }
        int there = valley().crowdAt(0, place);
        int best = NONE;
        for (int sent = 0; sent < 1 << people.entries; sent++) {
            // Sets come by rising bits, so a later one must be smaller to be better.
            if ((sent & there) == 0 && isFewer(sent, best) && isMetBySending(sent, place, hour)) {
                best = sent;
            }
        }
        return setAnswer(best, what);
    }

    public int keep(int place, int hour, int bright, int what) {
        if (!isPlace(place) || !isHour(hour) || !isBelow(bright, BRIGHTS) || !isBelow(what, 2)) {
            return BAD;
        }
        Valley valley = valley();
        int there = valley.crowdAt(hour, place);
        int best = NONE;
        for (int kept = 0; kept < there; kept++) {
            if ((kept & ~there) == 0 && isFewer(kept, best) && valley.isClear(hour, there & ~kept, bright)) {
                best = kept;
            }
        }
        return setAnswer(best, what);
    }

    public int row(int hour, int place, int i) {
        if (!isHour(hour) || !isPlace(place) || i != NONE && !isBelow(i, MOST_PERSONS)) {
            return BAD;
        }
        // Neighbours differ least together just in rows that never turn: they rise, or they fall.
        int there = valley().crowdAt(hour, place);
        int dullest = valley().seated(hour, there, 0, false);
        int brightest = valley().seated(hour, there, 0, true);
        if (i != NONE) {
            return valley().seated(hour, there, i, brightest < dullest);
        }
        if (dullest == NONE || brightest == NONE) {
            return 0;
        }
        return valley().brightnessOf(hour, brightest) - valley().brightnessOf(hour, dullest);
    }

    // ---- seen, fogs, news

    public int seen(int hour, int person, int bright) {
        if (!isHour(hour) || !isBelow(person, MOST_PERSONS) || !isBelow(bright, BRIGHTS)) {
            return BAD;
        }
        if (!sightings.hasRoom()) {
            return FULL;
        }
        sightings.add(hour, person, bright);
        return sightings.size;
    }

    public int fog(int hour, int place, int is) {
        if (!isHour(hour) || !isBelow(place, MOST_PLACES) || !isBelow(is, 2)) {
            return BAD;
        }
        if (!fogs.hasRoom()) {
            return FULL;
        }
        fogs.add(hour, place, is);
        return fogs.size;
    }

    public int forget(int what) {
        if (!isBelow(what, 2)) {
            return BAD;
        }
        Told told = what == 0 ? sightings : fogs;
        int had = told.size;
        told.clear();
        return had;
    }

    public int may(int person) {
        if (!isPerson(person)) {
            return BAD;
        }
        trial.open(LAST_HOUR);
        trial.walk();
        int bits = 0;
        for (int bright = 0; bright < BRIGHTS; bright++) {
            trial.begin(person, bright);
            trial.live();
            if (trial.comesOut(sightings)) {
                bits |= 1 << bright;
            }
        }
        return bits;
    }

    public int hid() {
        int bits = 0;
        for (int person = 0; person < people.entries; person++) {
            if (mayBeTheFog(person)) {
                bits |= 1 << person;
            }
        }
        return bits;
    }

    public long news(int c, int place, int hour, int what) {
        if (!isBelow(c, SIXTEENTHS + 1) || !isPlace(place) || !isHour(hour) || !isBelow(what, 2)) {
            return refusedLong(BAD);
        }
        int changing = changingPersons();
        long above = 0;
        trial.open(hour);
        trial.walk();
        for (int sad = 0; sad < 1 << people.entries; sad++) {
            long weight = weightOf(c, sad, changing);
            if (weight != 0) {
                tellBadNews(sad);
                trial.live();
                above += trial.isMet(hour, place) ? weight : 0;
            }
        }
        return partOfFraction(above, powerOf(SIXTEENTHS, Integer.bitCount(changing)), what);
    }

    public int roof(int c, int place, int hour) {
        if (!isBelow(c, SIXTEENTHS + 1) || !isPlace(place) || !isHour(hour)) {
            return BAD;
        }
        int changing = changingPersons();
        int sure = EVERY_HOUR >> hour << hour;
        trial.open(LAST_HOUR);
        trial.walk();
        for (int sad = 0; sad < 1 << people.entries && sure != 0; sad++) {
            if (weightOf(c, sad, changing) != 0) {
                tellBadNews(sad);
                trial.live();
                sure &= trial.metHours(place);
            }
        }
        for (int h = hour; h < HOURS; h++) {
            if ((sure >> h & 1) == 1) {
                return h;
            }
        }
        return NONE;
    }

    public int day(int seed, int person) {
        if (person != NONE && !isPerson(person)) {
            return BAD;
        }
        trial.open(LAST_HOUR);
        tellDay(seed);
        trial.walk();
        trial.live();
        if (person != NONE) {
            return trial.brightnessOf(LAST_HOUR, person);
        }
        int struck = 0;
        for (int hour = 0; hour < HOURS; hour++) {
            if (trial.leastStruck(hour) != NONE) {
                struck++;
            }
        }
        return struck;
    }

    // ---- sheets

    public int sheet(int s, int form, int n) {
        Sheet sheet = sheetOf(s);
        if (sheet == null || !isBelow(form, FORMS) || n > MOST_ITEMS) {
            return BAD;
        }
        if (n < 0) {
            return finding(FINDING_SIZE);
        }
        sheet.renew(form, n);
        return n;
    }

    public int lose(int s) {
        Sheet sheet = sheetOf(s);
        if (sheet == null) {
            return BAD;
        }
        if (sheet.isLost()) {
            return finding(FINDING_NULL);
        }
        int had = sheet.size;
        sheet.drop();
        return had;
    }

    public int lay(int s, int form, int i, int v) {
        Sheet sheet = sheetOf(s);
        if (sheet == null || !isBelow(form, FORMS)) {
            return BAD;
        }
        int found = findingAt(sheet, form, i);
        if (found != 0) {
            return finding(found);
        }
        sheet.put(i, v);
        return 1;
    }

    public int get(int s, int form, int i) {
        Sheet sheet = sheetOf(s);
        if (sheet == null || !isBelow(form, FORMS)) {
            return LEAST_INT;
        }
        int found = findingAt(sheet, form, i);
        if (found != 0) {
            latestFinding = found;
            return LEAST_INT;
        }
        return sheet.item(i);
    }

    public int copy(int s, int i, int t, int j, int n) {
        Sheet from = sheetOf(s);
        Sheet to = sheetOf(t);
        if (from == null || to == null) {
            return BAD;
        }
        if (from.isLost() || to.isLost()) {
            return finding(FINDING_NULL);
        }
        if (from.form != to.form) {
            return finding(FINDING_STORE);
        }
        if (!from.holds(i, n) || !to.holds(j, n)) {
            return finding(FINDING_INDEX);
        }
        System.arraycopy(from.items, i, to.items, j, n);
        return 1;
    }

    public int write(int hour, int s) {
        Sheet sheet = sheetOf(s);
        if (!isHour(hour) || sheet == null) {
            return BAD;
        }
        if (sheet.isLost()) {
            return finding(FINDING_NULL);
        }
        int written = Math.min(sheet.size, people.entries);
        for (int person = 0; person < written; person++) {
            sheet.put(person, valley().brightnessOf(hour, person));
        }
        return written;
    }

    public int count(int what) {
        switch (what) {
            case 0: return people.entries;
            case 1: return places.entries;
            case 2: return people.length;
            case 3: return places.length;
            case 4: return goings.size;
            case 5: return sightings.size;
            case 6: return fogs.size;
            case 7: return people.sumOfFirsts();
            case 8: return latestFinding;
            default: return BAD;
        }
    }

    public long digest() {
        long h = 17;
        for (int what = 0; what <= 7; what++) {
            h = mix(h, count(what));
        }
        h = mix(h, fault(PEOPLE_TEXT));
        h = mix(h, fault(PLACES_TEXT));
        for (int k = 0; k < DIGEST_HOURS.length; k++) {
            h = mixHour(h, DIGEST_HOURS[k]);
        }
        for (int place = 0; place < places.entries; place++) {
            h = mixPlace(h, place);
        }
        for (int person = 0; person < people.entries; person++) {
            h = mix(h, may(person));
        }
        h = mix(h, lightning(0));
        h = mix(h, lightning(1));
        h = mix(h, settles());
        h = mix(h, hid());
        h = mix(h, day(7, NONE));
        return mix(h, day(7, 0));
    }

    private long mixHour(long start, int hour) {
        long h = mix(start, met(hour));
        for (int person = 0; person < people.entries; person++) {
            h = mix(h, where(hour, person));
            h = mix(h, bright(hour, person));
        }
        for (int place = 0; place < places.entries; place++) {
            h = mix(h, crowd(hour, place));
            h = mix(h, sky(hour, place, 0));
            h = mix(h, sky(hour, place, 1));
        }
        return h;
    }

    private long mixPlace(long start, int place) {
        long h = mix(start, spoilt(place));
        h = mix(h, send(place, 3, 0));
        h = mix(h, send(place, 3, 1));
        h = mix(h, keep(place, 2, 5, 0));
        h = mix(h, keep(place, 2, 5, 1));
        h = mix(h, row(1, place, NONE));
        h = mix(h, row(1, place, 0));
        h = mix(h, news(5, place, 2, 0));
        h = mix(h, news(5, place, 2, 1));
        return mix(h, roof(5, place, 0));
    }

    private static long mix(long h, long v) {
        return 31 * h + v;
    }

    // ---- what a number may be

    private static boolean isBelow(int v, int bound) {
        return v >= 0 && v < bound;
    }

    private static boolean isHour(int hour) {
        return isBelow(hour, HOURS);
    }

    private boolean isPerson(int person) {
        return isBelow(person, people.entries);
    }

    private boolean isPlace(int place) {
        return isBelow(place, places.entries);
    }

    private static boolean mayBeGoing(int hour, int person, int place) {
        return isHour(hour) && isBelow(person, MOST_PERSONS) && isBelow(place, MOST_PLACES);
    }

    private Listing listingOf(int text) {
        if (text == PEOPLE_TEXT) {
            return people;
        }
        return text == PLACES_TEXT ? places : null;
    }

    private Sheet sheetOf(int s) {
        return isBelow(s, SHEETS) ? sheets[s] : null;
    }

    // ---- refusals and answers

    private int finding(int number) {
        latestFinding = number;
        return -10 - number;
    }

    /** The number of what is found in the way to an item, 0 if nothing is. */
    private static int findingAt(Sheet sheet, int form, int i) {
        if (sheet.isLost()) {
            return FINDING_NULL;
        }
        if (sheet.form != form) {
            return FINDING_CAST;
        }
        return isBelow(i, sheet.size) ? 0 : FINDING_INDEX;
    }

    private static long refusedLong(int refusal) {
        return LEAST_LONG - refusal;
    }

    private static int setAnswer(int bits, int what) {
        return bits == NONE || what == 1 ? bits : Integer.bitCount(bits);
    }

    private static long partOfFraction(long above, long below, int what) {
        long common = commonDivisor(above, below);
        if (common == 0) {
            return 0;
        }
        return (what == 0 ? above : below) / common;
    }

    private static long commonDivisor(long a, long b) {
        long x = a;
        long y = b;
        // Euclid's steps on longs are fewer than a hundred.
        for (int step = 0; step < 100 && y != 0; step++) {
            long rest = x % y;
            x = y;
            y = rest;
        }
        return x;
    }

    private static long powerOf(int base, int exponent) {
        long power = 1;
        for (int k = 0; k < exponent; k++) {
            power *= base;
        }
        return power;
    }

    // ---- trials

    /** The valley as it is told, run anew only if something was told since. */
    private Valley valley() {
        if (!asToldIsFresh) {
            asTold.open(LAST_HOUR);
            asTold.walk();
            asTold.live();
            asToldIsFresh = true;
        }
        return asTold;
    }

    private static boolean isFewer(int bits, int best) {
        return best == NONE || Integer.bitCount(bits) < Integer.bitCount(best);
    }

    private boolean isMetBySending(int sent, int place, int hour) {
        trial.open(hour);
        for (int person = 0; person < people.entries; person++) {
            if ((sent >> person & 1) == 1) {
                trial.tell(0, person, place);
            }
        }
        trial.walk();
        trial.live();
        return trial.isMet(hour, place);
    }

    private boolean mayBeTheFog(int person) {
        for (int k = 0; k < fogs.size; k++) {
            boolean isThere = valley().placeOf(fogs.hours[k], person) == fogs.subjects[k];
            if (isThere != (fogs.values[k] == 1)) {
                return false;
            }
        }
        return true;
    }

    private int changingPersons() {
        int bits = 0;
        for (int person = 0; person < people.entries; person++) {
            if (people.second(person) != CALM) {
                bits |= 1 << person;
            }
        }
        return bits;
    }

    /** How many of all 16 to the changing persons' number of cases have just these bad news. */
    private static long weightOf(int c, int sad, int changing) {
        if ((sad & ~changing) != 0) {
            return 0;
        }
        int sadOnes = Integer.bitCount(sad);
        return powerOf(c, sadOnes) * powerOf(SIXTEENTHS - c, Integer.bitCount(changing) - sadOnes);
    }

    private void tellBadNews(int sad) {
        for (int person = 0; person < people.entries; person++) {
            int told = people.first(person);
            boolean isSad = (sad >> person & 1) == 1;
            trial.begin(person, isSad ? Math.max(told - BAD_NEWS, 0) : told);
        }
    }

    private void tellDay(int seed) {
        int persons = people.entries;
        int spots = places.entries;
        if (persons == 0 || spots == 0) {
            return;
        }
        int lot = seed;
        for (int hour = 0; hour < HOURS; hour++) {
            lot = nextLot(lot);
            int person = (lot >>> 16) % persons;
            lot = nextLot(lot);
            trial.tell(hour, person, (lot >>> 16) % spots);
        }
    }

    private static int nextLot(int seed) {
        return 1103515245 * seed + 12345;
    }

    /** One of the two texts, with what it tells; both are rows of two signs with ; between them. */
    private static final class Listing {
        final int text;
        final int[] bytes;
        final int[] firsts;
        final int[] seconds;
        int length;
        int entries;
        int faultAt;

        Listing(int text, int most) {
            this.text = text;
            bytes = new int[3 * most - 1];
            firsts = new int[most];
            seconds = new int[most];
            length = 0;
            entries = 0;
            faultAt = NONE;
        }

        boolean hasRoom() {
            return length < bytes.length;
        }

        void append(int b) {
            if (hasRoom()) {
                bytes[length] = b;
                length++;
                parse();
            }
        }

        void shorten(int newLength) {
            length = newLength;
            parse();
        }

        int first(int i) {
            return isBelow(i, firsts.length) ? firsts[i] : 0;
        }

        int second(int i) {
            return isBelow(i, seconds.length) ? seconds[i] : 0;
        }

        int sumOfFirsts() {
            int sum = 0;
            for (int i = 0; i < entries; i++) {
                sum += firsts[i];
            }
            return sum;
        }

        private void parse() {
            faultAt = firstFault();
            entries = faultAt == NONE ? (length + 1) / 3 : 0;
        }

        private int firstFault() {
            for (int i = 0; i < length; i++) {
                if (!goesOn(i)) {
                    return i;
                }
            }
            return length == 0 || length % 3 == 2 ? NONE : length;
        }

        /** Takes byte i for what its place in an entry asks for, and says if it fits. */
        private boolean goesOn(int i) {
            int entry = i / 3;
            if (i % 3 == 2) {
                return bytes[i] == ';';
            }
            if (i % 3 == 0) {
                firsts[entry] = figureOf(bytes[i]);
                return firsts[entry] != NONE;
            }
            seconds[entry] = text == PEOPLE_TEXT ? kindOf(bytes[i]) : figureOf(bytes[i]);
            return seconds[entry] != NONE && (text == PEOPLE_TEXT || seconds[entry] >= firsts[entry]);
        }

        private static int figureOf(int b) {
            return b >= '0' && b <= '9' ? b - '0' : NONE;
        }

        private static int kindOf(int b) {
            switch (b) {
                case 'o': return 0;
                case 'h': return 1;
                case 'c': return CALM;
                default: return NONE;
            }
        }
    }

    /** What was told of hours, in the order told: goings, sightings or fogs. */
    private static final class Told {
        final int[] hours;
        final int[] subjects;
        final int[] values;
        int size;

        Told(int most) {
            hours = new int[most];
            subjects = new int[most];
            values = new int[most];
            size = 0;
        }

        boolean hasRoom() {
            return size < hours.length;
        }

        void add(int hour, int subject, int value) {
            if (hasRoom()) {
                hours[size] = hour;
                subjects[size] = subject;
                values[size] = value;
                size++;
            }
        }

        void dropLast() {
            size = Math.max(size - 1, 0);
        }

        void clear() {
            size = 0;
        }
    }

    /** A row of a form, or lost; the room for its items is made once. */
    private static final class Sheet {
        static final int LOST = -1;
        final int[] items;
        int form;
        int size;

        Sheet() {
            items = new int[MOST_ITEMS];
            form = LOST;
            size = 0;
        }

        boolean isLost() {
            return form == LOST;
        }

        void renew(int newForm, int newSize) {
            form = newForm;
            size = newSize;
            for (int i = 0; i < items.length; i++) {
                items[i] = 0;
            }
        }

        void drop() {
            form = LOST;
            size = 0;
        }

        boolean holds(int from, int n) {
            return from >= 0 && n >= 0 && from <= size && n <= size - from;
        }

        int item(int i) {
            return isBelow(i, size) ? items[i] : 0;
        }

        void put(int i, int v) {
            if (isBelow(i, size)) {
                items[i] = form == 0 ? (byte) v : form == 1 ? (short) v : v;
            }
        }
    }

    /**
     * The valley hour by hour. It is opened as told and may be told more; then all walk, then all live.
     * From other beginnings all may live again on the same walks.
     */
    private static final class Valley {
        static final int UNTOLD = -2;
        final Listing people;
        final Listing spots;
        final Told goings;
        final int[] at;
        final int[] brightness;
        final int[] heads;
        final int[] sums;
        final int[] dark;
        int last;

        Valley(Listing people, Listing spots, Told goings) {
            this.people = people;
            this.spots = spots;
            this.goings = goings;
            at = new int[HOURS * MOST_PERSONS];
            brightness = new int[HOURS * MOST_PERSONS];
            heads = new int[MOST_PLACES];
            sums = new int[MOST_PLACES];
            dark = new int[MOST_PLACES];
            last = LAST_HOUR;
        }

        /** All as told, to be run up to an hour and no further. */
        void open(int until) {
            last = Math.min(until, LAST_HOUR);
            for (int k = 0; k < (last + 1) * MOST_PERSONS; k++) {
                at[k] = UNTOLD;
            }
            for (int k = 0; k < goings.size; k++) {
                tell(goings.hours[k], goings.subjects[k], goings.values[k]);
            }
            for (int person = 0; person < people.entries; person++) {
                begin(person, people.first(person));
            }
        }

        /** What is told last of like hours overwrites what was told before. */
        void tell(int hour, int person, int place) {
            if (isBelow(hour, last + 1) && isBelow(person, MOST_PERSONS)) {
                at[hour * MOST_PERSONS + person] = place;
            }
        }

        void begin(int person, int bright) {
            if (isBelow(person, MOST_PERSONS)) {
                brightness[person] = bright;
            }
        }

        void walk() {
            for (int person = 0; person < people.entries; person++) {
                int place = 0;
                for (int hour = 0; hour <= last; hour++) {
                    int k = hour * MOST_PERSONS + person;
                    if (at[k] != UNTOLD) {
                        place = at[k];
                    }
                    at[k] = isBelow(place, spots.entries) ? place : NONE;
                }
            }
        }

        void live() {
            for (int hour = 0; hour < last; hour++) {
                gather(hour);
                int now = hour * MOST_PERSONS;
                for (int person = 0; person < people.entries; person++) {
                    brightness[now + MOST_PERSONS + person] =
                            brightnessAfter(at[now + person], brightness[now + person], people.seconds[person]);
                }
            }
        }

        private void gather(int hour) {
            for (int place = 0; place < spots.entries; place++) {
                heads[place] = 0;
                sums[place] = 0;
                dark[place] = 0;
            }
            int now = hour * MOST_PERSONS;
            for (int person = 0; person < people.entries; person++) {
                int place = at[now + person];
                if (place >= 0 && place < MOST_PLACES) {
                    int bright = brightness[now + person];
                    heads[place]++;
                    sums[place] += bright;
                    dark[place] += bright <= 1 ? 1 : 0;
                }
            }
        }

        private int brightnessAfter(int place, int bright, int kind) {
            if (kind == CALM || place < 0 || place >= MOST_PLACES) {
                return bright;
            }
            if (dark[place] >= 2) {
                return 0;
            }
            // Whoever is alone finds 0 on both sides, and stays as it was.
            int others = sums[place] - bright;
            int ifAlike = bright * (heads[place] - 1);
            if (others == ifAlike) {
                return bright;
            }
            return others > ifAlike ? bright + 1 : bright - 1;
        }

        int placeOf(int hour, int person) {
            int k = hour * MOST_PERSONS + person;
            return k >= 0 && k < at.length ? at[k] : NONE;
        }

        int brightnessOf(int hour, int person) {
            int k = hour * MOST_PERSONS + person;
            return k >= 0 && k < brightness.length ? brightness[k] : 0;
        }

        int crowdAt(int hour, int place) {
            int bits = 0;
            for (int person = 0; person < people.entries; person++) {
                if (placeOf(hour, person) == place) {
                    bits |= 1 << person;
                }
            }
            return bits;
        }

        int sumOf(int hour, int bits) {
            int sum = 0;
            for (int person = 0; person < people.entries; person++) {
                if ((bits >> person & 1) == 1) {
                    sum += brightnessOf(hour, person);
                }
            }
            return sum;
        }

        boolean isMet(int hour, int place) {
            int number = 0;
            int sum = 0;
            for (int person = 0; person < people.entries; person++) {
                if (placeOf(hour, person) == place) {
                    number++;
                    sum += brightnessOf(hour, person);
                }
            }
            return number > 0 && sum >= spots.first(place) * number && sum <= spots.second(place) * number;
        }

        boolean isClear(int hour, int left, int bright) {
            return sumOf(hour, left) >= bright * Integer.bitCount(left);
        }

        int metHours(int place) {
            int bits = 0;
            for (int hour = 0; hour < HOURS; hour++) {
                if (isMet(hour, place)) {
                    bits |= 1 << hour;
                }
            }
            return bits;
        }

        /** The least place at which there is lightning in an hour. */
        int leastStruck(int hour) {
            gather(hour);
            for (int place = 0; place < spots.entries; place++) {
                if (dark[place] >= 2) {
                    return place;
                }
            }
            return NONE;
        }

        boolean isAlike(int hour, int other) {
            for (int person = 0; person < people.entries; person++) {
                if (brightnessOf(hour, person) != brightnessOf(other, person)) {
                    return false;
                }
            }
            return true;
        }

        boolean comesOut(Told sightings) {
            for (int k = 0; k < sightings.size; k++) {
                int person = sightings.subjects[k];
                if (person >= people.entries || brightnessOf(sightings.hours[k], person) != sightings.values[k]) {
                    return false;
                }
            }
            return true;
        }

        /** Who sits i-th, if those told by bits sit by brightness, falling or rising, like ones by number. */
        int seated(int hour, int bits, int i, boolean falling) {
            for (int person = 0; person < people.entries; person++) {
                if ((bits >> person & 1) == 1 && seatsBefore(hour, bits, person, falling) == i) {
                    return person;
                }
            }
            return NONE;
        }

        private int seatsBefore(int hour, int bits, int person, boolean falling) {
            int own = brightnessOf(hour, person);
            int before = 0;
            for (int other = 0; other < people.entries; other++) {
                int bright = brightnessOf(hour, other);
                boolean sitsBefore = bright == own ? other < person : bright > own == falling;
                if ((bits >> other & 1) == 1 && sitsBefore) {
                    before++;
                }
            }
            return before;
        }
    }
}
