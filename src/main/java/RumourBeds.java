/** A street of houses where rumours lodge, eat, grow and are moved on: see the document's promises. */
public final class RumourBeds {
    private static final int BEYOND = -1000000001;
    private static final int FULL = -1000000002;
    private static final int KIND = -1000000003;
    private static final int NONE = -1000000004;
    private static final int STATE = -1000000005;
    private static final int MISSING = -1000000006;
    private static final int SIZE = -1000000007;
    private static final int FINDINGS = 7;

    private static final int HOUSES = 8;
    private static final int RUMOURS = 10;
    private static final int EVENTS = 16;
    private static final int ROAD = -1;
    private static final int MOST_BEDS = 3;
    private static final int MOST_LARDER = 999;
    private static final int MOST_LEANS = 9;
    private static final int MOST_BULK = 99;
    private static final int FIRST_BULK = 10;
    private static final int MOST_AGE = 999;
    private static final int LAST_DAY = 9999;
    private static final int MOST_IMPROVED = 20;
    private static final int MOST_TIMES = 40;
    private static final int DAYS_AHEAD = 60;
    private static final int DAYS_TRIED = 20;
    private static final int SHEETS = 4;

    private final Town street = new Town();
    /** Where whatever is only tried or foreseen goes on, so that no call needs a new town. */
    private final Town ahead = new Town();
    private final Town kept = new Town();
    private boolean isKept = false;
    private final Tape tape = new Tape();
    private final Sheet[] sheets = new Sheet[SHEETS];
    private final int[] found = new int[FINDINGS];

    public RumourBeds() {
        for (int s = 0; s < SHEETS; s++) {
            sheets[s] = new Sheet();
        }
    }

    // ---- houses

    public int house(int house, int what, int v) {
        if (!isHouse(house) || !isWithin(v, mostOfHouse(what))) {
            return finding(BEYOND);
        }
        int[] row = what == 0 ? street.beds : what == 1 ? street.larders : street.leans;
        int was = row[house];
        row[house] = v;
        return was;
    }

    public int houseOf(int house, int what) {
        if (!isHouse(house)) {
            return finding(BEYOND);
        }
        switch (what) {
            case 0: return street.beds[house];
            case 1: return street.larders[house];
            case 2: return street.leans[house];
            case 3: return street.thoseIn(house);
            case 4: return street.eventsIn(house);
            case 5: return street.eatenIn(house);
            default: return finding(BEYOND);
        }
    }

    // ---- rumours

    public int rumour(int kind, int event) {
        if (!isKind(kind) || !isEvent(event)) {
            return finding(BEYOND);
        }
        if (street.isFull()) {
            return finding(FULL);
        }
        return street.addOne(kind, event, FIRST_BULK);
    }

    public int of(int rumour, int what) {
        if (!isRumour(rumour)) {
            return finding(BEYOND);
        }
        switch (what) {
            case 0: return street.kinds[rumour];
            case 1: return street.events[rumour];
            case 2: return street.bulks[rumour];
            case 3: return street.ages[rumour];
            case 4: return street.places[rumour];
            case 5: return street.eatsOf(rumour);
            case 6: return street.needsOf(rumour);
            case 7: return street.growsOf(rumour);
            default: return finding(BEYOND);
        }
    }

    public int set(int rumour, int what, int v) {
        if (!isRumour(rumour) || !isWithin(v, mostOfRumour(what))) {
            return finding(BEYOND);
        }
        int[] row = what == 1 ? street.events : what == 2 ? street.bulks : street.ages;
        int was = row[rumour];
        row[rumour] = v;
        return was;
    }

    public int turn(int rumour, int kind) {
        if (!isRumour(rumour) || !isKind(kind)) {
            return finding(BEYOND);
        }
        int was = street.kinds[rumour];
        street.kinds[rumour] = kind;
        return was;
    }

    public int as(int rumour, int kind) {
        if (!isRumour(rumour) || !isKind(kind)) {
            return finding(BEYOND);
        }
        if (!Kinds.isUnder(street.kinds[rumour], kind)) {
            return finding(KIND);
        }
        return street.bulks[rumour];
    }

    public int takes(int house, int rumour) {
        if (!isHouse(house) || !isRumour(rumour)) {
            return finding(BEYOND);
        }
        return street.wouldTake(house, street.needsOf(rumour)) ? 1 : 0;
    }

    // ---- in, on, true

    public int comeIn(int rumour) {
        if (!isRumour(rumour)) {
            return finding(BEYOND);
        }
        if (street.places[rumour] != ROAD || street.isTrue(street.events[rumour])) {
            return finding(STATE);
        }
        int host = street.hostFor(rumour);
        street.lodge(rumour, host);
        return host;
    }

    public int improve(int rumour, int v) {
        if (!isRumour(rumour) || v < 1 || v > MOST_IMPROVED) {
            return finding(BEYOND);
        }
        if (street.places[rumour] == ROAD) {
            return finding(STATE);
        }
        street.improveBy(rumour, v);
        return street.places[rumour];
    }

    public int comesTrue(int event) {
        if (!isEvent(event)) {
            return finding(BEYOND);
        }
        return street.becomeTrue(event);
    }

    public int forget(int event) {
        if (!isEvent(event)) {
            return finding(BEYOND);
        }
        int was = street.isTrue(event) ? 1 : 0;
        street.trueEvents &= ~(1 << event);
        return was;
    }

    public int days(int n) {
        if (n < 1 || n > DAYS_AHEAD) {
            return finding(BEYOND);
        }
        if (street.day + n > LAST_DAY) {
            return finding(STATE);
        }
        street.passDays(n);
        return street.rumours;
    }

    public int now(int what) {
        switch (what) {
            case 0: return street.day;
            case 1: return street.trueEvents;
            case 2: return street.thoseIn(ROAD);
            case 3: return street.bulkOfAll();
            case 4: return sumOf(street.larders);
            case 5: return street.freeBeds();
            case 6: return street.eatenInAll();
            default: return finding(BEYOND);
        }
    }

    // ---- ahead

    public int on(int rumour, int n, int what) {
        if (!isRumour(rumour) || !isWithin(n, DAYS_AHEAD) || !isWithin(what, 1)) {
            return finding(BEYOND);
        }
        ahead.becomes(street);
        ahead.passDays(n);
        return what == 0 ? ahead.places[rumour] : ahead.bulks[rumour];
    }

    public int larder(int house, int n) {
        if (!isHouse(house) || !isWithin(n, DAYS_AHEAD)) {
            return finding(BEYOND);
        }
        ahead.becomes(street);
        ahead.passDays(n);
        return ahead.larders[house];
    }

    public int empty(int house) {
        if (!isHouse(house)) {
            return finding(BEYOND);
        }
        ahead.becomes(street);
        for (int n = 0; n <= DAYS_AHEAD; n++) {
            if (ahead.larders[house] == 0) {
                return n;
            }
            ahead.passDay();
        }
        return finding(NONE);
    }

    public int many(int n) {
        if (!isWithin(n, DAYS_AHEAD)) {
            return finding(BEYOND);
        }
        ahead.becomes(street);
        ahead.passDays(n);
        return ahead.rumours;
    }

    public int out(int rumour) {
        if (!isRumour(rumour)) {
            return finding(BEYOND);
        }
        ahead.becomes(street);
        for (int n = 0; n <= DAYS_AHEAD; n++) {
            if (ahead.places[rumour] == ROAD) {
                return n;
            }
            ahead.passDay();
        }
        return finding(NONE);
    }

    // ---- what is best

    public int fewest(int rumour, int house) {
        if (!isRumour(rumour) || !isHouse(house)) {
            return finding(BEYOND);
        }
        if (street.places[rumour] == ROAD) {
            return finding(STATE);
        }
        ahead.becomes(street);
        for (int times = 0; times <= MOST_TIMES; times++) {
            if (ahead.places[rumour] == house) {
                return times;
            }
            ahead.improveBy(rumour, 1);
        }
        return finding(NONE);
    }

    public int least(int rumour) {
        if (!isRumour(rumour)) {
            return finding(BEYOND);
        }
        if (street.places[rumour] == ROAD) {
            return finding(STATE);
        }
        for (int v = 1; v <= MOST_IMPROVED; v++) {
            ahead.becomes(street);
            ahead.improveBy(rumour, v);
            if (ahead.places[rumour] != street.places[rumour]) {
                return v;
            }
        }
        return finding(NONE);
    }

    public int best(int n) {
        if (!isWithin(n, DAYS_TRIED)) {
            return finding(BEYOND);
        }
        int best = 0;
        int most = -1;
        for (int event = 0; event < EVENTS; event++) {
            ahead.becomes(street);
            ahead.becomeTrue(event);
            ahead.passDays(n);
            int left = sumOf(ahead.larders);
            if (left > most) {
                most = left;
                best = event;
            }
        }
        return best;
    }

    public int lean(int house, int rumour) {
        if (!isHouse(house) || !isRumour(rumour)) {
            return finding(BEYOND);
        }
        if (!street.hasBedFree(house)) {
            return finding(NONE);
        }
        return street.needsOf(rumour);
    }

    public int leanFor(int house, int n) {
        if (!isHouse(house) || !isWithin(n, DAYS_TRIED)) {
            return finding(BEYOND);
        }
        int best = 0;
        int most = -1;
        for (int leans = 0; leans <= MOST_LEANS; leans++) {
            ahead.becomes(street);
            ahead.leans[house] = leans;
            ahead.passDays(n);
            if (ahead.larders[house] > most) {
                most = ahead.larders[house];
                best = leans;
            }
        }
        return best;
    }

    public int kind(int rumour) {
        if (!isRumour(rumour)) {
            return finding(BEYOND);
        }
        int bulk = street.bulks[rumour];
        int age = street.ages[rumour];
        int best = 0;
        for (int kind = 1; kind < Kinds.COUNT; kind++) {
            if (Kinds.eats(kind, bulk, age) < Kinds.eats(best, bulk, age)) {
                best = kind;
            }
        }
        return best;
    }

    public int host(int rumour) {
        if (!isRumour(rumour)) {
            return finding(BEYOND);
        }
        int host = street.hostFor(rumour);
        return host == ROAD ? finding(NONE) : host;
    }

    public int beds(int house, int n) {
        if (!isHouse(house) || !isWithin(n, DAYS_TRIED)) {
            return finding(BEYOND);
        }
        for (int beds = 0; beds <= MOST_BEDS; beds++) {
            ahead.becomes(street);
            ahead.beds[house] = beds;
            ahead.passDays(n);
            if (ahead.thoseIn(ROAD) == 0) {
                return beds;
            }
        }
        return finding(NONE);
    }

    // ---- the text

    public int feed(int bytes, int n) {
        if (n < 1 || n > 4) {
            return finding(BEYOND);
        }
        if (tape.length + n > Tape.MOST) {
            return finding(FULL);
        }
        for (int behind = n - 1; behind >= 0; behind--) {
            tape.addByte((bytes >>> (8 * behind)) & 255);
        }
        return tape.length;
    }

    public int wipe() {
        int had = tape.length;
        tape.length = 0;
        return had;
    }

    public int town() {
        // The text is told to a try-out, so that a FAULT leaves the street as it was.
        ahead.becomes(street);
        int items = tape.tellTo(ahead);
        if (items > 0) {
            street.becomes(ahead);
        }
        tape.length = 0;
        return items;
    }

    // ---- sheets

    public int sheet(int s, int bits, int n) {
        if (!isSheet(s) || (bits != 0 && bits != 8 && bits != 16 && bits != 64)) {
            return finding(BEYOND);
        }
        if (n < 0) {
            return finding(SIZE);
        }
        if (n > Sheet.MOST) {
            return finding(BEYOND);
        }
        sheets[s].begin(bits, n);
        return sheets[s].length;
    }

    public long write(int s, int i, long v) {
        if (!isSheet(s)) {
            return finding(BEYOND);
        }
        Sheet sheet = sheets[s];
        if (sheet.isMissing()) {
            return finding(MISSING);
        }
        if (i < 0 || i >= sheet.length) {
            return finding(BEYOND);
        }
        long was = sheet.numbers[i];
        sheet.put(i, v);
        return was;
    }

    public int copy(int s, int from, int t, int to, int n) {
        if (!isSheet(s) || !isSheet(t)) {
            return finding(BEYOND);
        }
        Sheet source = sheets[s];
        Sheet target = sheets[t];
        if (source.isMissing() || target.isMissing()) {
            return finding(MISSING);
        }
        if (source.bits != target.bits) {
            return finding(KIND);
        }
        if (!source.hasRange(from, n) || !target.hasRange(to, n)) {
            return finding(BEYOND);
        }
        System.arraycopy(source.numbers, from, target.numbers, to, n);
        return n;
    }

    public int lays(int s) {
        if (!isSheet(s)) {
            return finding(BEYOND);
        }
        Sheet sheet = sheets[s];
        if (sheet.isMissing()) {
            return finding(MISSING);
        }
        int came = 0;
        for (int i = 0; i < sheet.length && i < HOUSES; i++) {
            long v = sheet.numbers[i];
            if (v >= 0 && v <= MOST_LEANS) {
                street.leans[i] = (int) v;
                came++;
            }
        }
        return came;
    }

    public int book(int s, int house) {
        int wrong = findingOfBook(s, house);
        if (wrong != 0) {
            return finding(wrong);
        }
        Sheet sheet = sheets[s];
        ahead.becomes(street);
        for (int n = 0; n < sheet.length; n++) {
            sheet.put(n, ahead.larders[house]);
            ahead.passDay();
        }
        return sheet.length;
    }

    public int read(int s, int house) {
        int wrong = findingOfBook(s, house);
        if (wrong != 0) {
            return finding(wrong);
        }
        int pairs = 0;
        for (int rumour = 0; rumour < street.rumours; rumour++) {
            if (street.places[rumour] != house) {
                continue;
            }
            for (int kind = 0; kind < Kinds.COUNT; kind++) {
                ahead.becomes(street);
                ahead.kinds[rumour] = kind;
                if (isBookOf(sheets[s], house)) {
                    pairs++;
                }
            }
        }
        return pairs;
    }

    // ---- images

    public int image() {
        kept.becomes(street);
        isKept = true;
        return 1;
    }

    public int undo() {
        if (!isKept) {
            return finding(NONE);
        }
        street.becomes(kept);
        return street.rumours;
    }

    public int tear() {
        int was = isKept ? 1 : 0;
        isKept = false;
        return was;
    }

    public int count(int what) {
        switch (what) {
            case 0: return street.rumours;
            case 1: return tape.length;
            case 2: return sumOf(street.lodgers);
            case 3: return sumOf(street.beds);
            default: return finding(BEYOND);
        }
    }

    public int status(int which) {
        if (which == -1) {
            return sumOf(found);
        }
        if (which < 0 || which >= FINDINGS) {
            return finding(BEYOND);
        }
        return found[which];
    }

    // ---- what the calls above share

    private int finding(int which) {
        int place = BEYOND - which;
        if (place >= 0 && place < FINDINGS) {
            found[place]++;
        }
        return which;
    }

    private static boolean isWithin(int v, int most) {
        return v >= 0 && v <= most;
    }

    private static boolean isHouse(int house) {
        return house >= 0 && house < HOUSES;
    }

    private static boolean isKind(int kind) {
        return kind >= 0 && kind < Kinds.COUNT;
    }

    private static boolean isEvent(int event) {
        return event >= 0 && event < EVENTS;
    }

    private static boolean isSheet(int s) {
        return s >= 0 && s < SHEETS;
    }

    private boolean isRumour(int rumour) {
        return rumour >= 0 && rumour < street.rumours;
    }

    /** The most that house(..) may set; below 0 (so that no v is within it) for another what. */
    private static int mostOfHouse(int what) {
        switch (what) {
            case 0: return MOST_BEDS;
            case 1: return MOST_LARDER;
            case 2: return MOST_LEANS;
            default: return -1;
        }
    }

    /** The most that set(..) may set; below 0 (so that no v is within it) for another what. */
    private static int mostOfRumour(int what) {
        switch (what) {
            case 1: return EVENTS - 1;
            case 2: return MOST_BULK;
            case 3: return MOST_AGE;
            default: return -1;
        }
    }

    private static int sumOf(int[] row) {
        int sum = 0;
        for (int i = 0; i < row.length; i++) {
            sum += row[i];
        }
        return sum;
    }

    /** The finding that a book of a house in a sheet meets; 0 if none. */
    private int findingOfBook(int s, int house) {
        if (!isSheet(s)) {
            return BEYOND;
        }
        if (sheets[s].isMissing()) {
            return MISSING;
        }
        return isHouse(house) ? 0 : BEYOND;
    }

    /** Whether the town ahead, going on from its present day, makes the book just so. */
    private boolean isBookOf(Sheet sheet, int house) {
        for (int n = 0; n < sheet.length; n++) {
            if (sheet.numbers[n] != ahead.larders[house]) {
                return false;
            }
            ahead.passDay();
        }
        return true;
    }

    /** The kinds: which is under which, and what one of each eats, needs and grows. */
    private static final class Kinds {
        private static final int COUNT = 6;
        private static final int RUMOUR = 0;
        private static final int BIG = 1;
        private static final int DULL = 2;
        private static final int SHY = 3;
        private static final int ROYAL = 4;
        private static final int WELLS = 5;
        private static final int NO_KIND = -1;
        private static final int[] ABOVE = {NO_KIND, RUMOUR, RUMOUR, RUMOUR, BIG, DULL};

        static boolean isUnder(int kind, int top) {
            int at = kind;
            for (int level = 0; level < COUNT && at >= 0 && at < COUNT; level++) {
                if (at == top) {
                    return true;
                }
                at = ABOVE[at];
            }
            return false;
        }

        static int eats(int kind, int bulk, int age) {
            int asRumour = bulk / 10 + 1;
            int asBig = 2 * asRumour;
            int asDull = 1;
            switch (kind) {
                case BIG: return asBig;
                case DULL: return asDull;
                case SHY: return Math.max(0, asRumour - age / 10);
                case ROYAL: return asBig + 3;
                case WELLS: return asDull - 1;
                default: return asRumour;
            }
        }

        static int needs(int kind, int bulk) {
            int asRumour = 3;
            int asBig = bulk < 20 ? 1 : asRumour;
            int asDull = 2 * asRumour;
            switch (kind) {
                case BIG: return asBig;
                case DULL: return asDull;
                case SHY: return asRumour + 1;
                case ROYAL: return asBig - 1;
                case WELLS: return asDull + 1;
                default: return asRumour;
            }
        }

        static int grows(int kind, int bulk, int age) {
            int asRumour = 1;
            switch (kind) {
                case BIG: case ROYAL: return bulk / 10 + asRumour;
                case DULL: case WELLS: return 0;
                case SHY: return age % 2 == 0 ? asRumour : 0;
                default: return asRumour;
            }
        }

        static String nameOf(int kind) {
            switch (kind) {
                case BIG: return "big";
                case DULL: return "dull";
                case SHY: return "shy";
                case ROYAL: return "royal";
                case WELLS: return "wells";
                default: return "rumour";
            }
        }
    }

    /** All that section 1 of the document's terms tells but for the tape, and how a day goes. */
    private static final class Town {
        private final int[] beds = new int[HOUSES];
        private final int[] larders = new int[HOUSES];
        private final int[] leans = new int[HOUSES];
        /** How many lodge in each house: kept by lodge(..), so that a free bed needs no search. */
        private final int[] lodgers = new int[HOUSES];

        private int rumours = 0;
        private final int[] kinds = new int[RUMOURS];
        private final int[] events = new int[RUMOURS];
        private final int[] bulks = new int[RUMOURS];
        private final int[] ages = new int[RUMOURS];
        private final int[] places = new int[RUMOURS];

        private int day = 0;
        private int trueEvents = 0;

        Town() {
            for (int house = 0; house < HOUSES; house++) {
                beds[house] = 1;
                larders[house] = 50;
                leans[house] = 3;
            }
        }

        void becomes(Town other) {
            System.arraycopy(other.beds, 0, beds, 0, HOUSES);
            System.arraycopy(other.larders, 0, larders, 0, HOUSES);
            System.arraycopy(other.leans, 0, leans, 0, HOUSES);
            System.arraycopy(other.lodgers, 0, lodgers, 0, HOUSES);
            System.arraycopy(other.kinds, 0, kinds, 0, RUMOURS);
            System.arraycopy(other.events, 0, events, 0, RUMOURS);
            System.arraycopy(other.bulks, 0, bulks, 0, RUMOURS);
            System.arraycopy(other.ages, 0, ages, 0, RUMOURS);
            System.arraycopy(other.places, 0, places, 0, RUMOURS);
            rumours = other.rumours;
            day = other.day;
            trueEvents = other.trueEvents;
        }

        boolean isFull() {
            return rumours >= RUMOURS;
        }

        /** A new one on the road: its number, or -1 if there is room for none. */
        int addOne(int kind, int event, int bulk) {
            if (isFull()) {
                return -1;
            }
            int rumour = rumours;
            kinds[rumour] = kind;
            events[rumour] = event;
            bulks[rumour] = bulk;
            ages[rumour] = 0;
            places[rumour] = ROAD;
            rumours++;
            return rumour;
        }

        int eatsOf(int rumour) {
            return Kinds.eats(kinds[rumour], bulks[rumour], ages[rumour]);
        }

        int needsOf(int rumour) {
            return Kinds.needs(kinds[rumour], bulks[rumour]);
        }

        int growsOf(int rumour) {
            return Kinds.grows(kinds[rumour], bulks[rumour], ages[rumour]);
        }

        boolean isTrue(int event) {
            return (trueEvents & (1 << event)) != 0;
        }

        boolean hasBedFree(int house) {
            return lodgers[house] < beds[house];
        }

        boolean wouldTake(int house, int needs) {
            return hasBedFree(house) && leans[house] >= needs;
        }

        /** The house into which one would come in, wherever it is now; ROAD if none. */
        int hostFor(int rumour) {
            int host = ROAD;
            if (isTrue(events[rumour])) {
                return host;
            }
            int needs = needsOf(rumour);
            for (int house = 0; house < HOUSES; house++) {
                if (wouldTake(house, needs) && (host == ROAD || leans[house] > leans[host])) {
                    host = house;
                }
            }
            return host;
        }

        /** One goes to a house or on the road, from wherever it is. */
        void lodge(int rumour, int to) {
            int from = places[rumour];
            if (from >= 0) {
                lodgers[from]--;
            }
            if (to >= 0) {
                lodgers[to]++;
            }
            places[rumour] = to;
        }

        void improveBy(int rumour, int v) {
            bulks[rumour] = Math.min(MOST_BULK, bulks[rumour] + v);
            int own = places[rumour];
            int needs = needsOf(rumour);
            for (int behind = 1; behind < HOUSES; behind++) {
                int house = (own + behind) % HOUSES;
                if (wouldTake(house, needs)) {
                    lodge(rumour, house);
                    return;
                }
            }
        }

        /** How many of it left. */
        int becomeTrue(int event) {
            int left = 0;
            for (int rumour = 0; rumour < rumours; rumour++) {
                if (events[rumour] == event && places[rumour] != ROAD) {
                    lodge(rumour, ROAD);
                    left++;
                }
            }
            trueEvents |= 1 << event;
            return left;
        }

        void passDays(int n) {
            for (int gone = 0; gone < n; gone++) {
                passDay();
            }
        }

        void passDay() {
            for (int rumour = 0; rumour < rumours; rumour++) {
                if (places[rumour] != ROAD) {
                    feedOne(rumour);
                }
                ages[rumour] = Math.min(MOST_AGE, ages[rumour] + 1);
            }
            for (int house = 0; house < HOUSES; house++) {
                // Few houses have two lodgers: the others are not worth a search for a pair.
                if (lodgers[house] >= 2) {
                    makeThird(house);
                }
            }
            for (int rumour = 0; rumour < rumours; rumour++) {
                if (places[rumour] == ROAD) {
                    lodge(rumour, hostFor(rumour));
                }
            }
            day++;
        }

        private void feedOne(int rumour) {
            int house = places[rumour];
            int eaten = eatsOf(rumour);
            if (larders[house] < eaten) {
                larders[house] = 0;
                lodge(rumour, ROAD);
                return;
            }
            larders[house] -= eaten;
            bulks[rumour] = Math.min(MOST_BULK, bulks[rumour] + growsOf(rumour));
        }

        private void makeThird(int house) {
            int event = pairedEvent(house);
            if (event < 0 || isFull() || isOnRoad(event)) {
                return;
            }
            int together = 0;
            int parents = 0;
            for (int rumour = 0; rumour < rumours && parents < 2; rumour++) {
                if (places[rumour] == house && events[rumour] == event) {
                    together += bulks[rumour];
                    parents++;
                }
            }
            addOne(Kinds.RUMOUR, event, together / 2);
        }

        /** The least event of which two or more lodge in a house; -1 if there is none. */
        private int pairedEvent(int house) {
            int once = 0;
            int twice = 0;
            for (int rumour = 0; rumour < rumours; rumour++) {
                if (places[rumour] == house) {
                    int bit = 1 << events[rumour];
                    twice |= once & bit;
                    once |= bit;
                }
            }
            for (int event = 0; event < EVENTS; event++) {
                if ((twice & (1 << event)) != 0) {
                    return event;
                }
            }
            return -1;
        }

        private boolean isOnRoad(int event) {
            for (int rumour = 0; rumour < rumours; rumour++) {
                if (places[rumour] == ROAD && events[rumour] == event) {
                    return true;
                }
            }
            return false;
        }

        /** Those in a house, or on the road, as a set. */
        int thoseIn(int place) {
            int those = 0;
            for (int rumour = 0; rumour < rumours; rumour++) {
                if (places[rumour] == place) {
                    those |= 1 << rumour;
                }
            }
            return those;
        }

        int eventsIn(int house) {
            int those = 0;
            for (int rumour = 0; rumour < rumours; rumour++) {
                if (places[rumour] == house) {
                    those |= 1 << events[rumour];
                }
            }
            return those;
        }

        int eatenIn(int house) {
            int eaten = 0;
            for (int rumour = 0; rumour < rumours; rumour++) {
                if (places[rumour] == house) {
                    eaten += eatsOf(rumour);
                }
            }
            return eaten;
        }

        int eatenInAll() {
            int eaten = 0;
            for (int house = 0; house < HOUSES; house++) {
                eaten += eatenIn(house);
            }
            return eaten;
        }

        int bulkOfAll() {
            int bulk = 0;
            for (int rumour = 0; rumour < rumours; rumour++) {
                bulk += bulks[rumour];
            }
            return bulk;
        }

        int freeBeds() {
            int free = 0;
            for (int house = 0; house < HOUSES; house++) {
                // A house that lost beds has more lodgers than beds, but no beds below none.
                free += Math.max(0, beds[house] - lodgers[house]);
            }
            return free;
        }
    }

    /** The tape, and the reader of the text of a town on it, with one token in hand. */
    private static final class Tape {
        private static final int MOST = 120;
        private static final int END = 0;
        private static final int WORD = 1;
        private static final int NUMBER = 2;
        private static final int SIGN = 3;
        private static final int BLANK = 4;
        private static final int OTHER = 5;
        private static final int BEYOND_NUMBERS = 1000;

        private final int[] bytes = new int[MOST];
        private int length = 0;

        private int sort = END;
        private int first = 0;
        private int behind = 0;
        private int value = 0;

        void addByte(int b) {
            if (length < MOST) {
                bytes[length] = b;
                length++;
            }
        }

        /** How many items came to the town; with a fault -1 less its place, the town then half told. */
        int tellTo(Town town) {
            behind = 0;
            nextToken();
            for (int items = 1; items <= MOST; items++) {
                // What can't stand stays in hand, so that a fault is where that begins.
                if (!tellItem(town)) {
                    return -1 - first;
                }
                if (sort == END) {
                    return items;
                }
                if (sort != SIGN) {
                    return -1 - first;
                }
                nextToken();
            }
            return -1 - first;
        }

        private boolean tellItem(Town town) {
            if (isWord("house")) {
                return tellHouse(town);
            }
            if (isWord("true")) {
                return tellTrue(town);
            }
            for (int kind = 0; kind < Kinds.COUNT; kind++) {
                if (isWord(Kinds.nameOf(kind))) {
                    return tellRumour(town, kind);
                }
            }
            return false;
        }

        private boolean tellHouse(Town town) {
            nextToken();
            int house = passNumber(HOUSES - 1);
            return house >= 0
                && tellPart("beds", MOST_BEDS, town.beds, house)
                && tellPart("larder", MOST_LARDER, town.larders, house)
                && tellPart("leans", MOST_LEANS, town.leans, house);
        }

        private boolean tellTrue(Town town) {
            nextToken();
            int event = passNumber(EVENTS - 1);
            if (event < 0) {
                return false;
            }
            town.becomeTrue(event);
            return true;
        }

        private boolean tellRumour(Town town, int kind) {
            if (town.isFull()) {
                return false;
            }
            nextToken();
            if (!isWord("of")) {
                return false;
            }
            nextToken();
            int event = passNumber(EVENTS - 1);
            if (event < 0) {
                return false;
            }
            int rumour = town.addOne(kind, event, FIRST_BULK);
            return rumour >= 0
                && tellPart("bulk", MOST_BULK, town.bulks, rumour)
                && tellLodging(town, rumour);
        }

        /** Perhaps a word and a number, which comes to its place in a row: false with a fault. */
        private boolean tellPart(String word, int most, int[] row, int at) {
            if (!isWord(word)) {
                return true;
            }
            nextToken();
            if (!isNumber(most)) {
                return false;
            }
            row[at] = value;
            nextToken();
            return true;
        }

        private boolean tellLodging(Town town, int rumour) {
            if (!isWord("in")) {
                return true;
            }
            nextToken();
            if (!isNumber(HOUSES - 1) || !town.hasBedFree(value)) {
                return false;
            }
            town.lodge(rumour, value);
            nextToken();
            return true;
        }

        /** The number in hand, which is passed; -1 if there is none in hand, or one above the most. */
        private int passNumber(int most) {
            if (!isNumber(most)) {
                return -1;
            }
            int v = value;
            nextToken();
            return v;
        }

        private boolean isNumber(int most) {
            return sort == NUMBER && value <= most;
        }

        private boolean isWord(String word) {
            if (sort != WORD || behind - first != word.length()) {
                return false;
            }
            for (int i = 0; i < word.length(); i++) {
                if (bytes[first + i] != word.charAt(i)) {
                    return false;
                }
            }
            return true;
        }

        private void nextToken() {
            while (behind < length && sortOf(bytes[behind]) == BLANK) {
                behind++;
            }
            first = behind;
            value = 0;
            if (behind >= length) {
                sort = END;
                return;
            }
            sort = sortOf(bytes[behind]);
            boolean isLong = sort == WORD || sort == NUMBER;
            do {
                if (sort == NUMBER) {
                    // Held where it is above every number, so that many digits don't wrap around.
                    value = Math.min(BEYOND_NUMBERS, 10 * value + bytes[behind] - '0');
                }
                behind++;
            } while (isLong && behind < length && sortOf(bytes[behind]) == sort);
        }

        private static int sortOf(int b) {
            if (b >= 'a' && b <= 'z') {
                return WORD;
            }
            if (b >= '0' && b <= '9') {
                return NUMBER;
            }
            return b == ';' ? SIGN : b == ' ' ? BLANK : OTHER;
        }
    }

    /** A row of numbers of 8, 16 or 64 bits, all told as Java tells numbers of so many bits. */
    private static final class Sheet {
        private static final int MOST = 40;

        /** 0: it is missing. */
        private int bits = 0;
        private int length = 0;
        private final long[] numbers = new long[MOST];

        boolean isMissing() {
            return bits == 0;
        }

        void begin(int ofBits, int n) {
            bits = ofBits;
            length = ofBits == 0 ? 0 : n;
            for (int i = 0; i < MOST; i++) {
                numbers[i] = 0;
            }
        }

        void put(int i, long v) {
            numbers[i] = bits == 8 ? (byte) v : bits == 16 ? (short) v : v;
        }

        boolean hasRange(int from, int n) {
            return from >= 0 && n >= 0 && n <= length && from <= length - n;
        }
    }
}
