import java.util.Arrays;

/** The usher's list: ways in which a king falls every evening, what was done, and what can be done yet. */
public final class EveningFalls {
    public static final int BAD = -1, FULL = -2, FINDING = -3, STATE = -4, SPENT = -6, NONE = -9;

    private static final int NOTHING = 1, BEYOND = 2, UNLIKE = 3, NOUGHT = 4, SIZE = 5;
    private static final int WAY = 0, RIOT = 1, MIMED = 2, REGENT = 3, PROXY = 4, LANDSLIDE = 5, KINDS = 6;

    private static final int MOST_ROWS = 6, MOST_PLACES = 40, MOST_TEXTS = 4, MOST_BYTES = 60;
    private static final int MOST_WAYS = 7, MOST_PEOPLE = 3, MOST_KEPT = 3, MOST_DEEDS = 40;
    private static final int LAST_DAY = 999, PLAN_DAYS = 6, ROW_DAYS = 12, RULE_DAYS = 60;
    private static final int ROUND_DAYS = 5, STRIKE_DAYS = 3, LOT_DAYS = 20;
    private static final int MOST_TROUBLE = 18, MOST_SET = 7, ALL_CHANCES = 12, COUNTS = 11, FACTS = 6, WEEK = 7;

    private static final int BLANK = 32, NO_BYTE = 1000;
    private static final int REIGNS = -1, REIGN_TROUBLE = 20;
    private static final int LOT_MODULUS = 2147483647, LOT_FACTOR = 48271;

    private final Strip[] rows = strips(MOST_ROWS, MOST_PLACES);
    private final Strip[] texts = strips(MOST_TEXTS, MOST_BYTES);
    private final Strip[] kept = strips(MOST_KEPT, MOST_DEEDS);
    private final Strip deeds = new Strip(MOST_DEEDS);
    private final Course now = new Course();
    private final int[] answered = new int[SIZE + 1];
    private Court court = new Court();
    private Court spare = new Court();
    private final Search search = new Search(court);
    private int toldAsked = 0;
    private long toldUpper = 0;
    private long toldLower = 1;
    private int latestFinding = 0;

    public EveningFalls() {
        deeds.makeAnew(0, 0);
    }

    // ---- 1 rows, texts, courts

    public int row(int r, int n) {
        return makeStrip(stripAt(rows, r), n, 0);
    }

    public int lay(int r, int i, int v) {
        Strip row = stripAt(rows, r);
        if (row == null) return BAD;
        if (row.isMissing()) return found(NOTHING);
        if (!row.hasPlace(i)) return found(BEYOND);
        toldAsked = row.places[i];
        row.places[i] = v;
        return 1;
    }

    public int at(int r, int i) {
        Strip row = stripAt(rows, r);
        if (row == null) return BAD;
        if (row.isMissing()) return found(NOTHING);
        if (!row.hasPlace(i)) return found(BEYOND);
        toldAsked = row.places[i];
        return 1;
    }

    public int tear(int r) {
        Strip row = stripAt(rows, r);
        if (row == null) return BAD;
        if (row.isMissing()) return found(NOTHING);
        row.goMissing();
        return 1;
    }

    public int copy(int r, int i, int to, int j, int n) {
        Strip from = stripAt(rows, r);
        Strip into = stripAt(rows, to);
        if (from == null || into == null) return BAD;
        if (n < 0) return found(SIZE);
        if (from.isMissing() || into.isMissing()) return found(NOTHING);
        if (!from.hasPlaces(i, n) || !into.hasPlaces(j, n)) return found(BEYOND);
        System.arraycopy(from.places, i, into.places, j, n);
        return 1;
    }

    public int mean(int r) {
        Strip row = stripAt(rows, r);
        if (row == null) return BAD;
        if (row.isMissing()) return found(NOTHING);
        if (row.size == 0) return found(NOUGHT);
        long sum = 0;
        for (int i = 0; i < row.size; i++) sum += row.places[i];
        toldAsked = (int) (sum / row.size);
        return 1;
    }

    public int text(int t, int n) {
        return makeStrip(stripAt(texts, t), n, BLANK);
    }

    public int put(int t, int i, int v) {
        Strip text = stripAt(texts, t);
        if (text == null) return BAD;
        if (text.isMissing()) return found(NOTHING);
        if (!text.hasPlace(i)) return found(BEYOND);
        int before = text.places[i];
        text.places[i] = (byte) v;
        // Bytes go below 0 in Java: 1000 more keeps them apart from what is refused.
        return before + 1000;
    }

    public int fault(int t) {
        Strip text = stripAt(texts, t);
        if (text == null) return BAD;
        if (text.isMissing()) return found(NOTHING);
        return Reader.readCourt(text, spare);
    }

    public int court(int t) {
        Strip text = stripAt(texts, t);
        if (text == null) return BAD;
        if (text.isMissing()) return found(NOTHING);
        if (Reader.readCourt(text, spare) != NONE) return STATE;
        Court before = court;
        court = spare;
        spare = before;
        deeds.makeAnew(0, 0);
        now.begin();
        for (int k = 0; k < MOST_KEPT; k++) kept[k].goMissing();
        return court.ways;
    }

    public int way(int w, int what) {
        if (!court.hasWay(w) || what < 0 || what >= FACTS) return BAD;
        toldAsked = factOf(w, what);
        return 1;
    }

    public int mark(int w, int kind) {
        if (!court.hasWay(w) || kind <= WAY || kind >= KINDS) return BAD;
        if (!court.isOf(w, kind)) return found(UNLIKE);
        switch (kind) {
            case RIOT: return court.howManyAre(RIOT) - 1;
            case MIMED: return court.pause[w] + 1;
            case REGENT: return now.ahead == REIGNS ? 0 : 1;
            case PROXY: return Integer.bitCount(court.named[w]);
            default: return (5 - now.day % 5) % 5;
        }
    }

    public int away(int day) {
        if (day < 0 || day > LAST_DAY) return BAD;
        return court.awayOn(day);
    }

    // ---- 2 deeds

    public int fall(int w) {
        if (!court.hasWay(w)) return BAD;
        if ((openNow() >> w & 1) == 0) return STATE;
        if (deeds.size >= MOST_DEEDS) return FULL;
        doDeed(w);
        return court.trouble[w];
    }

    public int night() {
        if (court.ways == 0) return STATE;
        if (deeds.size >= MOST_DEEDS) return FULL;
        doDeed(REIGNS);
        return now.day;
    }

    public int undo(int n) {
        if (n < 0 || n > deeds.size) return BAD;
        int undone = deeds.size - n;
        deeds.size = n;
        replay();
        return undone;
    }

    public int keep(int k) {
        if (k < 0 || k >= MOST_KEPT) return BAD;
        if (court.ways == 0) return STATE;
        kept[k].takeFrom(deeds.places, deeds.size);
        return deeds.size;
    }

    public int on(int k) {
        if (k < 0 || k >= MOST_KEPT) return BAD;
        if (kept[k].isMissing()) return found(NOTHING);
        deeds.takeFrom(kept[k].places, kept[k].size);
        replay();
        return deeds.size;
    }

    // ---- 3 plans (aside, from now on)

    public int can() {
        return openNow();
    }

    public int plans(int n) {
        if (n < 0 || n > PLAN_DAYS) return BAD;
        if (court.ways == 0) return STATE;
        search.begin(court, now, n);
        tell(Search.countPlans(search, n), 1);
        return 1;
    }

    public int least(int n, int r) {
        Strip row = stripAt(rows, r);
        if (n < 0 || n > PLAN_DAYS || row == null) return BAD;
        if (court.ways == 0) return STATE;
        search.begin(court, now, n);
        Search.seekLeast(search, 0);
        if (search.best == NONE) return NONE;
        row.takeFrom(search.found, n);
        return search.best;
    }

    public int longest(int r) {
        Strip row = stripAt(rows, r);
        if (row == null) return BAD;
        if (court.ways == 0) return STATE;
        search.begin(court, now, PLAN_DAYS);
        Search.seekLongest(search, 0);
        int days = Math.max(0, search.best);
        row.takeFrom(search.found, days);
        return days;
    }

    public int goes(int r) {
        Strip row = stripAt(rows, r);
        if (row == null) return BAD;
        if (court.ways == 0) return STATE;
        if (row.isMissing()) return found(NOTHING);
        if (row.size > ROW_DAYS) return found(SIZE);
        for (int i = 0; i < row.size; i++) {
            if (!court.hasWay(row.places[i])) return found(UNLIKE);
        }
        search.begin(court, now, 0);
        int days = 0;
        while (days < row.size && (search.open() >> row.places[days] & 1) != 0) {
            search.aside.goOn(court, row.places[days]);
            days++;
        }
        return days;
    }

    public int lasts(int rule) {
        if (rule < 0 || rule > 2) return BAD;
        if (court.ways == 0) return STATE;
        search.begin(court, now, 0);
        int days = 0;
        while (days < RULE_DAYS) {
            int w = search.aside.choose(court, rule, search.open());
            if (w < 0) break;
            search.aside.goOn(court, w);
            days++;
        }
        toldAsked = search.aside.trouble;
        return days;
    }

    // ---- 4 whom it takes, rounds

    public int takes(int n) {
        if (n < 0 || n > PLAN_DAYS) return BAD;
        if (court.ways == 0) return STATE;
        search.begin(court, now, n);
        Search.seekPeople(search, 0, 0);
        if (search.best == NONE) return NONE;
        toldAsked = search.best;
        return Integer.bitCount(search.best);
    }

    public int rounds(int n) {
        if (n < 1 || n > ROUND_DAYS) return BAD;
        if (court.ways == 0) return STATE;
        search.begin(court, now, n);
        int all = 1;
        for (int i = 0; i < n; i++) all *= court.ways;
        int first = NONE;
        long many = 0;
        // The rows as numbers in base "WAYS": counting up goes through them in the order of PLANS.
        for (int code = 0; code < all; code++) {
            search.spell(code);
            if (search.goesRound()) {
                if (many == 0) first = search.path[0];
                many++;
            }
        }
        toldAsked = first;
        tell(many, 1);
        return 1;
    }

    // ---- 5 a lost day

    public int lost(int day, int set) {
        if (day < 0 || day > LAST_DAY || set < 0 || set > court.everybody()) return BAD;
        if (court.ways == 0) return STATE;
        if ((set & court.awayOn(day)) != 0) return 0;
        int bits = 0;
        for (int w = 0; w < court.ways; w++) {
            if (court.needs[w] == set && Court.fitsDay(court.kind[w], day)) bits |= 1 << w;
        }
        return bits;
    }

    public int kinds(int w, int day, int trouble, int set) {
        if (!court.hasWay(w) || day < 0 || day > LAST_DAY) return BAD;
        if (trouble < 0 || trouble > MOST_TROUBLE || set < 0 || set > MOST_SET) return BAD;
        int bits = 0;
        for (int kind = 0; kind < KINDS; kind++) {
            if (Court.troubleAs(kind, court.told[w]) == trouble
                    && Court.needsAs(kind, court.named[w]) == set
                    && Court.fitsDay(kind, day)) bits |= 1 << kind;
        }
        return bits;
    }

    // ---- 6 one who strikes out

    public int strikes(int n) {
        if (n < 0 || n > STRIKE_DAYS) return BAD;
        if (court.ways == 0) return STATE;
        search.begin(court, now, n);
        return Search.whenStriking(search, (1 << court.ways) - 1, n);
    }

    // ---- 7 chances, lots

    public int odds(int p) {
        if (p < 0 || p > ALL_CHANCES) return BAD;
        if (court.ways == 0) return STATE;
        tellMean(p, false);
        return 1;
    }

    public int mid(int p) {
        if (p < 0 || p > ALL_CHANCES) return BAD;
        if (court.ways == 0) return STATE;
        tellMean(p, true);
        return 1;
    }

    public int lots(int n, int seed) {
        if (n < 1 || n > LOT_DAYS || seed < 1 || seed >= LOT_MODULUS) return BAD;
        if (court.ways == 0) return STATE;
        if (deeds.size + n > MOST_DEEDS) return FULL;
        int nightsBefore = now.nights;
        long lot = seed;
        for (int i = 0; i < n; i++) {
            lot = lot * LOT_FACTOR % LOT_MODULUS;
            doDeed(firstFrom((int) (lot / 8 % court.ways)));
        }
        return now.nights - nightsBefore;
    }

    // ---- 8 what is told

    public int asked() {
        return toldAsked;
    }

    public long upper() {
        return toldUpper;
    }

    public long lower() {
        return toldLower;
    }

    public int count(int what) {
        if (what < 0 || what >= COUNTS) return BAD;
        return numberOf(what);
    }

    public int finding() {
        return latestFinding;
    }

    public int findings(int f) {
        if (f < NOTHING || f > SIZE) return BAD;
        return answered[f];
    }

    public long digest() {
        long h = 17;
        for (int what = 0; what < COUNTS; what++) h = 31 * h + numberOf(what);
        for (int day = 0; day < WEEK; day++) h = 31 * h + court.awayOn(day);
        for (int w = 0; w < court.ways; w++) {
            for (int what = 0; what < FACTS; what++) h = 31 * h + factOf(w, what);
        }
        for (int k = 0; k < MOST_KEPT; k++) h = 31 * h + kept[k].size;
        for (int r = 0; r < MOST_ROWS; r++) h = rows[r].digestFrom(h);
        for (int t = 0; t < MOST_TEXTS; t++) h = texts[t].digestFrom(h);
        return h;
    }

    // ---- helpers

    private static Strip[] strips(int many, int most) {
        Strip[] made = new Strip[Math.max(0, many)];
        for (int i = 0; i < made.length; i++) made[i] = new Strip(most);
        return made;
    }

    private static Strip stripAt(Strip[] strips, int i) {
        return i >= 0 && i < strips.length ? strips[i] : null;
    }

    private int makeStrip(Strip strip, int n, int filling) {
        if (strip == null || n > strip.places.length) return BAD;
        if (n < 0) return found(SIZE);
        strip.makeAnew(n, filling);
        return n;
    }

    private int found(int f) {
        latestFinding = f;
        answered[f]++;
        return FINDING;
    }

    private void tell(long upper, long lower) {
        long shared = greatestShared(upper, lower);
        if (shared <= 0) return;
        toldUpper = upper / shared;
        toldLower = lower / shared;
    }

    private static long greatestShared(long a, long b) {
        long high = a;
        long low = b;
        // Euclid's steps for longs stay far below a hundred.
        for (int i = 0; i < 200 && low != 0; i++) {
            long left = high % low;
            high = low;
            low = left;
        }
        return high;
    }

    private int openNow() {
        return now.openWays(court, court.awayOn(now.day));
    }

    private void doDeed(int deed) {
        if (deeds.size >= MOST_DEEDS) return;
        deeds.places[deeds.size] = deed;
        deeds.size++;
        now.goOn(court, deed);
    }

    private void replay() {
        now.begin();
        for (int i = 0; i < deeds.size; i++) now.goOn(court, deeds.places[i]);
    }

    private int firstFrom(int start) {
        int open = openNow();
        for (int i = 0; i < court.ways; i++) {
            int w = (start + i) % court.ways;
            if ((open >> w & 1) != 0) return w;
        }
        return REIGNS;
    }

    private int factOf(int w, int what) {
        switch (what) {
            case 0: return court.kind[w];
            case 1: return court.trouble[w];
            case 2: return court.needs[w];
            case 3: return now.last[w];
            case 4: return now.times[w];
            default: return openNow() >> w & 1;
        }
    }

    private int numberOf(int what) {
        switch (what) {
            case 0: return court.ways;
            case 1: return court.people;
            case 2: return now.day;
            case 3: return deeds.size;
            case 4: return now.trouble;
            case 5: return now.nights;
            case 6: return court.howManyAre(RIOT);
            case 7: return court.howManyAre(MIMED);
            case 8: return howManyThere(rows);
            case 9: return howManyThere(texts);
            default: return howManyThere(kept);
        }
    }

    private static int howManyThere(Strip[] strips) {
        int many = 0;
        for (int i = 0; i < strips.length; i++) {
            if (!strips[i].isMissing()) many++;
        }
        return many;
    }

    /** Over all sets of PEOPLE who do not come: the mean of the least TROUBLE, or of 1 where there is a WAY. */
    private void tellMean(int p, boolean ofTrouble) {
        int gone = court.awayOn(now.day);
        long upper = 0;
        long lower = 0;
        for (int absent = 0; absent <= court.everybody(); absent++) {
            if ((absent & gone) != 0) continue;
            long weight = weightOf(absent, gone, p);
            int open = now.openWays(court, gone | absent);
            int worth = ofTrouble ? leastTrouble(open) : open != 0 ? 1 : 0;
            upper += weight * worth;
            lower += weight;
        }
        tell(upper, lower);
    }

    private long weightOf(int absent, int gone, int p) {
        long weight = 1;
        for (int who = 0; who < court.people; who++) {
            if ((gone >> who & 1) == 0) weight *= (absent >> who & 1) != 0 ? p : ALL_CHANCES - p;
        }
        return weight;
    }

    private int leastTrouble(int open) {
        int w = now.choose(court, 1, open);
        return court.hasWay(w) ? court.trouble[w] : REIGN_TROUBLE;
    }

    /** A ROW, a TEXT, or a row of DEEDS: its places are made once and used again; a size of -1 is: missing. */
    private static final class Strip {
        private final int[] places;
        private int size = -1;

        Strip(int most) {
            places = new int[Math.max(0, most)];
        }

        boolean isMissing() {
            return size < 0;
        }

        void goMissing() {
            size = -1;
        }

        boolean hasPlace(int i) {
            return i >= 0 && i < size;
        }

        boolean hasPlaces(int i, int n) {
            return i >= 0 && i <= size && n <= size - i;
        }

        void makeAnew(int n, int filling) {
            if (n < 0 || n > places.length) return;
            size = n;
            Arrays.fill(places, filling);
        }

        void takeFrom(int[] other, int n) {
            if (n < 0 || n > places.length || n > other.length) return;
            System.arraycopy(other, 0, places, 0, n);
            size = n;
        }

        int byteAt(int i) {
            return hasPlace(i) ? places[i] : NO_BYTE;
        }

        long digestFrom(long start) {
            long h = 31 * start + size;
            for (int i = 0; i < size; i++) h = 31 * h + places[i];
            return h;
        }
    }

    /** What a TEXT tells of a COURT, and what follows by the KINDS of its WAYS; no deed changes it. */
    private static final class Court {
        private final int[] round = new int[MOST_PEOPLE];
        private final int[] turn = new int[MOST_PEOPLE];
        private final int[] kind = new int[MOST_WAYS];
        private final int[] told = new int[MOST_WAYS];
        private final int[] named = new int[MOST_WAYS];
        private final int[] trouble = new int[MOST_WAYS];
        private final int[] needs = new int[MOST_WAYS];
        private final int[] pause = new int[MOST_WAYS];
        private int rest = 0;
        private int people = 0;
        private int ways = 0;

        void clear() {
            rest = 0;
            people = 0;
            ways = 0;
        }

        void addPerson(int itsRound, int itsTurn) {
            if (people >= MOST_PEOPLE) return;
            round[people] = itsRound;
            turn[people] = itsTurn;
            people++;
        }

        void addWay(int itsKind, int itsTrouble, int itsNeeds) {
            if (ways >= MOST_WAYS) return;
            kind[ways] = itsKind;
            told[ways] = itsTrouble;
            named[ways] = itsNeeds;
            trouble[ways] = troubleAs(itsKind, itsTrouble);
            needs[ways] = needsAs(itsKind, itsNeeds);
            pause[ways] = kindIs(itsKind, MIMED) ? rest / 2 : rest;
            ways++;
        }

        boolean hasWay(int w) {
            return w >= 0 && w < ways;
        }

        int everybody() {
            return (1 << people) - 1;
        }

        int awayOn(int day) {
            int bits = 0;
            for (int who = 0; who < people; who++) {
                if (round[who] > 0 && day % round[who] == turn[who]) bits |= 1 << who;
            }
            return bits;
        }

        boolean isOf(int w, int base) {
            return kindIs(kind[w], base);
        }

        int howManyAre(int base) {
            int many = 0;
            for (int w = 0; w < ways; w++) {
                if (isOf(w, base)) many++;
            }
            return many;
        }

        static boolean kindIs(int kind, int base) {
            if (base == WAY || kind == base) return true;
            return base == RIOT ? kind == PROXY : base == MIMED && kind == LANDSLIDE;
        }

        static int troubleAs(int kind, int told) {
            if (kind == PROXY) return 2 * told;
            return kindIs(kind, MIMED) ? told / 2 : told;
        }

        static int needsAs(int kind, int named) {
            return kind == PROXY ? 0 : named;
        }

        static boolean fitsDay(int kind, int day) {
            return kind != LANDSLIDE || day % 5 == 0;
        }
    }

    /** Reads the small language. */
    private static final class Reader {
        /** The FAULT of a TEXT, or NONE: then the COURT is as the TEXT tells. */
        static int readCourt(Strip text, Court into) {
            into.clear();
            int place = pastBlanks(text, 0);
            if (text.byteAt(place) != 'k') return place;
            int rest = figure(text, place + 1, 6);
            if (rest < 0) return place + 1;
            into.rest = rest;
            place = pastBlanks(text, place + 2);
            for (int who = 0; who < MOST_PEOPLE && text.byteAt(place) == 'o'; who++) {
                int round = figure(text, place + 1, 7);
                if (round < 2) return place + 1;
                int turn = figure(text, place + 2, round - 1);
                if (turn < 0) return place + 2;
                into.addPerson(round, turn);
                place = pastBlanks(text, place + 3);
            }
            return readWays(text, place, into);
        }

        private static int readWays(Strip text, int start, Court into) {
            int place = start;
            for (int w = 0; w < MOST_WAYS && place < text.size; w++) {
                int kind = kindBy(text.byteAt(place));
                if (kind < 0) return place;
                int trouble = figure(text, place + 1, 9);
                if (trouble < 0) return place + 1;
                int needs = figure(text, place + 2, into.everybody());
                if (needs < 0) return place + 2;
                into.addWay(kind, trouble, needs);
                place = pastBlanks(text, place + 3);
            }
            return place < text.size || into.ways == 0 ? place : NONE;
        }

        private static int pastBlanks(Strip text, int start) {
            int place = start;
            while (place < text.size && text.byteAt(place) == BLANK) place++;
            return place;
        }

        /** A figure of 0 .. most, or -1. */
        private static int figure(Strip text, int place, int most) {
            int value = text.byteAt(place) - '0';
            return value >= 0 && value <= most ? value : -1;
        }

        private static int kindBy(int letter) {
            switch (letter) {
                case 'w': return WAY;
                case 'r': return RIOT;
                case 'm': return MIMED;
                case 'g': return REGENT;
                case 'p': return PROXY;
                case 'l': return LANDSLIDE;
                default: return -1;
            }
        }
    }

    /** Where things stand on a DAY: truly, or aside in a search. */
    private static final class Course {
        private final int[] last = new int[MOST_WAYS];
        private final int[] times = new int[MOST_WAYS];
        private int day;
        private int ahead;
        private int trouble;
        private int nights;

        Course() {
            begin();
        }

        void begin() {
            Arrays.fill(last, NONE);
            Arrays.fill(times, 0);
            day = 0;
            ahead = REIGNS;
            trouble = 0;
            nights = 0;
        }

        /** As another one stands, but that TROUBLE is counted from here on. */
        void startFrom(Course other) {
            System.arraycopy(other.last, 0, last, 0, MOST_WAYS);
            System.arraycopy(other.times, 0, times, 0, MOST_WAYS);
            day = other.day;
            ahead = other.ahead;
            trouble = 0;
            nights = other.nights;
        }

        /** WAYS (bits) that can be done, if these PEOPLE are gone. */
        int openWays(Court court, int gone) {
            int bits = 0;
            for (int w = 0; w < court.ways; w++) {
                if ((court.needs[w] & gone) == 0 && isRipe(court, w)) bits |= 1 << w;
            }
            return bits;
        }

        private boolean isRipe(Court court, int w) {
            if (last[w] != NONE && day - last[w] <= court.pause[w]) return false;
            if (!Court.fitsDay(court.kind[w], day)) return false;
            if (court.kind[w] == REGENT) return ahead != REIGNS;
            return !court.isOf(w, RIOT) || !court.hasWay(ahead) || !court.isOf(ahead, RIOT);
        }

        /** A WAY is done, or he REIGNS. */
        void goOn(Court court, int deed) {
            if (court.hasWay(deed)) {
                last[deed] = day;
                times[deed]++;
                trouble += court.trouble[deed];
                ahead = deed;
            } else {
                nights++;
                trouble += REIGN_TROUBLE;
                ahead = REIGNS;
            }
            day++;
        }

        /** The latest deed is taken back; what stood ahead of it is given by the caller, who has kept it. */
        void goBack(Court court, int deed, int lastBefore, int aheadBefore) {
            day--;
            ahead = aheadBefore;
            if (court.hasWay(deed)) {
                last[deed] = lastBefore;
                times[deed]--;
                trouble -= court.trouble[deed];
            } else {
                nights--;
                trouble -= REIGN_TROUBLE;
            }
        }

        /** The WAY that a RULE of the usher takes of open ones, or -1. */
        int choose(Court court, int rule, int open) {
            int chosen = -1;
            for (int w = 0; w < court.ways; w++) {
                if ((open >> w & 1) != 0 && (chosen < 0 || isBetter(court, rule, w, chosen))) chosen = w;
            }
            return chosen;
        }

        private boolean isBetter(Court court, int rule, int w, int than) {
            if (rule == 1) return court.trouble[w] < court.trouble[than];
            // NONE is below every DAY, so one that never was done is ahead of all.
            return rule == 2 && last[w] < last[than];
        }
    }

    /** Goes through PLANS on a course aside; its rows serve every call anew. */
    private static final class Search {
        private final Course aside = new Course();
        private final int[] path = new int[PLAN_DAYS];
        private final int[] found = new int[PLAN_DAYS];
        private Court court;
        private int days = 0;
        private int cheapest = 0;
        private int best = NONE;

        Search(Court first) {
            court = first;
        }

        void begin(Court with, Course from, int n) {
            court = with;
            aside.startFrom(from);
            days = Math.max(0, Math.min(n, PLAN_DAYS));
            best = NONE;
            cheapest = REIGN_TROUBLE;
            for (int w = 0; w < with.ways; w++) cheapest = Math.min(cheapest, with.trouble[w]);
        }

        int open() {
            return aside.openWays(court, court.awayOn(aside.day));
        }

        private void keepPath(int value) {
            best = value;
            System.arraycopy(path, 0, found, 0, PLAN_DAYS);
        }

        private static long countPlans(Search s, int left) {
            if (left <= 0) return 1;
            int open = s.open();
            if (left == 1) return Integer.bitCount(open);
            long many = 0;
            for (int w = 0; w < s.court.ways; w++) {
                if ((open >> w & 1) == 0) continue;
                int last = s.aside.last[w];
                int ahead = s.aside.ahead;
                s.aside.goOn(s.court, w);
                many += countPlans(s, left - 1);
                s.aside.goBack(s.court, w, last, ahead);
            }
            return many;
        }

        /** Only less TROUBLE takes the place of what was found: so the first PLAN of the least stays. */
        private static void seekLeast(Search s, int depth) {
            int left = s.days - depth;
            if (s.best != NONE && s.aside.trouble + left * s.cheapest >= s.best) return;
            if (left <= 0 || depth >= PLAN_DAYS) {
                s.keepPath(s.aside.trouble);
                return;
            }
            int open = s.open();
            for (int w = 0; w < s.court.ways; w++) {
                if ((open >> w & 1) == 0) continue;
                int last = s.aside.last[w];
                int ahead = s.aside.ahead;
                s.path[depth] = w;
                s.aside.goOn(s.court, w);
                seekLeast(s, depth + 1);
                s.aside.goBack(s.court, w, last, ahead);
            }
        }

        private static void seekLongest(Search s, int depth) {
            if (depth > s.best) s.keepPath(depth);
            if (depth >= PLAN_DAYS) return;
            int open = s.open();
            for (int w = 0; w < s.court.ways && s.best < PLAN_DAYS; w++) {
                if ((open >> w & 1) == 0) continue;
                int last = s.aside.last[w];
                int ahead = s.aside.ahead;
                s.path[depth] = w;
                s.aside.goOn(s.court, w);
                seekLongest(s, depth + 1);
                s.aside.goBack(s.court, w, last, ahead);
            }
        }

        private static void seekPeople(Search s, int depth, int set) {
            // More WAYS never need fewer PEOPLE: what is no better now will not be better.
            if (s.best != NONE && rank(set) >= rank(s.best)) return;
            if (depth >= s.days) {
                s.best = set;
                return;
            }
            int open = s.open();
            for (int w = 0; w < s.court.ways; w++) {
                if ((open >> w & 1) == 0) continue;
                int last = s.aside.last[w];
                int ahead = s.aside.ahead;
                s.aside.goOn(s.court, w);
                seekPeople(s, depth + 1, set | s.court.needs[w]);
                s.aside.goBack(s.court, w, last, ahead);
            }
        }

        /** Fewer PEOPLE first, then lesser numbers. */
        private static int rank(int set) {
            return Integer.bitCount(set) * (MOST_SET + 1) + set;
        }

        /** TROUBLE of the DAYS left, if now one of the WAYS left (bits) is struck out. */
        private static int whenStriking(Search s, int left, int n) {
            if (n <= 0) return 0;
            if (left == 0) return whenDoing(s, 0, n);
            int most = 0;
            for (int w = 0; w < s.court.ways; w++) {
                if ((left >> w & 1) != 0) most = Math.max(most, whenDoing(s, left & ~(1 << w), n));
            }
            return most;
        }

        private static int whenDoing(Search s, int left, int n) {
            int open = s.open() & left;
            int ahead = s.aside.ahead;
            s.aside.goOn(s.court, REIGNS);
            int least = REIGN_TROUBLE + whenStriking(s, left, n - 1);
            s.aside.goBack(s.court, REIGNS, NONE, ahead);
            for (int w = 0; w < s.court.ways; w++) {
                if ((open >> w & 1) == 0) continue;
                int last = s.aside.last[w];
                s.aside.goOn(s.court, w);
                least = Math.min(least, s.court.trouble[w] + whenStriking(s, left, n - 1));
                s.aside.goBack(s.court, w, last, ahead);
            }
            return least;
        }

        /** The path is the row of WAYS that a number tells in base "WAYS". */
        void spell(int code) {
            int left = code;
            if (court.ways == 0) return;
            for (int i = days - 1; i >= 0; i--) {
                path[i] = left % court.ways;
                left /= court.ways;
            }
        }

        boolean goesRound() {
            for (int i = 0; i < days; i++) {
                if (!goesRoundFrom(i)) return false;
            }
            return true;
        }

        private boolean goesRoundFrom(int i) {
            if (days == 0) return false;
            int w = path[i];
            if (court.kind[w] == LANDSLIDE) return false;
            if (court.isOf(w, RIOT) && court.isOf(path[(i + 1) % days], RIOT)) return false;
            for (int d = 1; d <= court.pause[w]; d++) {
                if (path[(i + d) % days] == w) return false;
            }
            return true;
        }
    }
}
