/**
 * An outing of eight hours, the people who remember it, and the society that has insured how they will.
 * ../shared/DOC.md says what each call answers; the words in the comments here are its terms.
 */
public final class RememberedAsSunny {
    public static final int NONE = -1, BAD = -2, STATE = -3, FULL = -4;
    public static final long NO = -4611686018427387904L;

    /** The refusal of the calls whose answers may be small numbers below 0. */
    private static final int NONE_SUCH = -1000000;
    private static final int MISSING = -11, OUTSIDE = -12, OTHER_SORT = -13, BELOW_0 = -14;

    private static final int HOURS = 8, ALL_HOURS = 255, SETS = 256;
    private static final int MOST_PEOPLE = 6, MOST_TEXTS = 6, MOST_BYTES = 160;
    private static final int SHEETS = 4, MOST_ITEMS = 40;
    private static final int LAST_YEAR = 99, YEARS_AHEAD = 40, YEARS_PAID = 10, MOST_PREMIUM = 99;
    private static final int LOWEST_WEATHER = -9, WEATHERS = 19;
    private static final int KINDS = 6, NUMBERS = 10;

    /** What set() changes, and the bounds of each. */
    private static final int YEARS = 0, LIMIT = 1, PURSE = 2, WEATHER = 3, MENDED = 4, NUMBER = 5, PREMIUM = 6;
    private static final int[] LOWEST = {0, -999, -99999, -9, 0, 0, 0};
    private static final int[] HIGHEST = {99, 999, 99999, 9, 1, 9, 99};

    private static final String FIRST_RULE =
        "thinks weather + mended * 9 ; mends 10 - weather ; claims 20 + years ;";

    private final Outing now = new Outing();
    private final Outing kept = new Outing();
    /** What is only supposed: laid anew by every call that supposes something. */
    private final Outing thought = new Outing();
    private boolean hasImage = false;
    private final Parser parser = new Parser();
    private final Minds minds = new Minds();
    private final Remedies remedies = new Remedies();
    private final int[] dues = new int[YEARS_PAID];
    private final Sheet[] sheets = new Sheet[SHEETS];

    public RememberedAsSunny() {
        for (int i = 0; i < SHEETS; i++) {
            sheets[i] = new Sheet();
        }
        for (int i = 0; i < FIRST_RULE.length(); i++) {
            feed(FIRST_RULE.charAt(i));
        }
        text();
    }

    // ---- the outing, people

    public int set(int what, int of, int v) {
        if (!isPlain(what, of) || v < LOWEST[what] || v > HIGHEST[what]) {
            return NONE_SUCH;
        }
        int was = plain(what, of);
        put(what, of, v);
        return was;
    }

    public int person(int kind, int number) {
        if (kind < 0 || kind >= KINDS || number < 0 || number >= NUMBERS) {
            return BAD;
        }
        return now.welcome(kind, number);
    }

    public int told(int of, int what) {
        if (what <= PREMIUM) {
            return isPlain(what, of) ? plain(what, of) : NONE_SUCH;
        }
        if (what == 11) {
            return isHour(of) ? minds.cost(now, of) : NONE_SUCH;
        }
        if (!now.has(of)) {
            return NONE_SUCH;
        }
        if (isHour(what - 20)) {
            return minds.thinks(now, of, what - 20);
        }
        if (isHour(what - 30)) {
            return minds.mending(now, of, what - 30);
        }
        switch (what) {
            case 7: return now.kinds[of];
            case 8: return minds.memory(now, of);
            case 9: return minds.isHazy(now, of) ? 1 : 0;
            case 10: return minds.claimed(now, of);
            default: return NONE_SUCH;
        }
    }

    private static boolean isHour(int hour) {
        return hour >= 0 && hour < HOURS;
    }

    private boolean isPlain(int what, int of) {
        switch (what) {
            case YEARS: case LIMIT: case PURSE: return true;
            case WEATHER: case MENDED: return isHour(of);
            case NUMBER: case PREMIUM: return now.has(of);
            default: return false;
        }
    }

    private int plain(int what, int of) {
        switch (what) {
            case YEARS: return now.years;
            case LIMIT: return now.limit;
            case PURSE: return now.purse;
            case WEATHER: return now.weather[of];
            case MENDED: return now.mendedAt(of);
            case NUMBER: return now.numbers[of];
            default: return now.premiums[of];
        }
    }

    private void put(int what, int of, int v) {
        switch (what) {
            case YEARS: now.years = v; break;
            case LIMIT: now.limit = v; break;
            case PURSE: now.purse = v; break;
            case WEATHER: now.weather[of] = v; break;
            case MENDED: now.mended = now.mended & ~(1 << of) | v << of; break;
            case NUMBER: now.numbers[of] = v; break;
            default: now.premiums[of] = v;
        }
    }

    // ---- texts

    public int feed(int letter) {
        if (letter < 0 || letter > 255) {
            return BAD;
        }
        return parser.take(letter);
    }

    public int text() {
        if (minds.size >= MOST_TEXTS) {
            return FULL;
        }
        Text made = parser.parse();
        parser.size = 0;
        return made == null ? -100 - parser.fault : minds.add(made);
    }

    public int force(int text) {
        if (text < 0 || text >= minds.size) {
            return BAD;
        }
        int was = now.rule;
        now.rule = text;
        return was;
    }

    // ---- years

    public int year() {
        if (now.years >= LAST_YEAR) {
            return NONE_SUCH;
        }
        minds.passYear(now);
        return now.purse;
    }

    public int right(int hour) {
        if (!isHour(hour)) {
            return BAD;
        }
        if (now.mendedAt(hour) == 1) {
            return STATE;
        }
        int cost = minds.cost(now, hour);
        now.earn(-cost);
        now.mended |= 1 << hour;
        return cost;
    }

    public int run(int n, int what) {
        if (n < 0 || n > YEARS_AHEAD || what < 0 || what > 2) {
            return NONE_SUCH;
        }
        thought.become(now);
        int firstBelow = NONE;
        for (int i = 0; i < n; i++) {
            minds.passYear(thought);
            if (thought.purse < 0 && firstBelow == NONE) {
                firstBelow = i;
            }
        }
        switch (what) {
            case 0: return thought.purse;
            case 1: return minds.hazyPeople(thought);
            default: return firstBelow;
        }
    }

    public int society(int what) {
        switch (what) {
            case 0: return minds.hazyPeople(now);
            case 1: return minds.due(now);
            case 2: return now.premiumsOfAll();
            case 3: return neverSo();
            case 4: return costOfRest();
            default: return NONE_SUCH;
        }
    }

    private int neverSo() {
        int bits = ALL_HOURS;
        for (int one = 0; one < now.size; one++) {
            for (int hour = 0; hour < HOURS; hour++) {
                if (minds.thinks(now, one, hour) != 0) {
                    bits &= ~(1 << hour);
                }
            }
        }
        return bits;
    }

    private int costOfRest() {
        int sum = 0;
        for (int hour = 0; hour < HOURS; hour++) {
            if (now.mendedAt(hour) == 0) {
                sum += minds.cost(now, hour);
            }
        }
        return sum;
    }

    // ---- what would be best

    public int cheapest(int m, int what) {
        if (m < 0 || m > MOST_PEOPLE || what < 0 || what > 1) {
            return BAD;
        }
        weighRemedies();
        int set = remedies.cheapestFor(m, now.mended);
        return what == 0 || set == NONE ? set : remedies.costs[set];
    }

    public int most(int x, int what) {
        if (x < 0 || x > 999 || what < 0 || what > 2) {
            return BAD;
        }
        weighRemedies();
        int set = remedies.mostWithin(x, now.mended);
        switch (what) {
            case 0: return set;
            case 1: return remedies.hazy[set];
            default: return remedies.costs[set];
        }
    }

    public int haze(int one) {
        if (!now.has(one)) {
            return BAD;
        }
        thought.become(now);
        for (int more = 0; more <= YEARS_AHEAD; more++) {
            thought.years = now.years + more;
            if (minds.isHazy(thought, one)) {
                return more;
            }
        }
        return NONE;
    }

    public int premium() {
        thought.become(now);
        for (int i = 0; i < YEARS_PAID; i++) {
            dues[i] = minds.due(thought);
            thought.years++;
        }
        for (int each = 0; each <= MOST_PREMIUM; each++) {
            if (lasts(each * now.size)) {
                return each;
            }
        }
        return NONE;
    }

    public int best(int one, int what) {
        if (!now.has(one) || what < 0 || what > 2) {
            return NONE_SUCH;
        }
        if (what == 2) {
            return alone(one);
        }
        int hour = bestHour(one);
        return what == 0 ? hour : minds.thinks(now, one, hour);
    }

    public int agree(int one, int other) {
        if (!now.has(one) || !now.has(other) || one == other) {
            return BAD;
        }
        int bits = 0;
        for (int hour = 0; hour < HOURS; hour++) {
            if (minds.thinks(now, one, hour) == minds.thinks(now, other, hour)) {
                bits |= 1 << hour;
            }
        }
        return bits;
    }

    /** A thought of an hour asks for no other hour's mending, so each hour is weighed once, not once a set. */
    private void weighRemedies() {
        remedies.clear();
        thought.become(now);
        thought.mended = ALL_HOURS;
        for (int hour = 0; hour < HOURS; hour++) {
            remedies.steps[hour] = minds.cost(now, hour);
        }
        remedies.sumSteps(0, remedies.costs);
        for (int one = 0; one < now.size; one++) {
            for (int hour = 0; hour < HOURS; hour++) {
                remedies.steps[hour] = minds.thinks(thought, one, hour) - minds.thinks(now, one, hour);
            }
            remedies.sumSteps(minds.memory(now, one), remedies.memories);
            remedies.countHazy(now.limit);
        }
    }

    private boolean lasts(int premiums) {
        thought.purse = now.purse;
        for (int i = 0; i < YEARS_PAID; i++) {
            thought.earn(premiums);
            thought.earn(-dues[i]);
            if (thought.purse < 0) {
                return false;
            }
        }
        return true;
    }

    private int bestHour(int one) {
        int best = 0;
        int most = minds.thinks(now, one, 0);
        for (int hour = 1; hour < HOURS; hour++) {
            int value = minds.thinks(now, one, hour);
            if (value > most) {
                best = hour;
                most = value;
            }
        }
        return best;
    }

    private int alone(int one) {
        int bits = minds.likedHours(now, one);
        for (int other = 0; other < now.size; other++) {
            if (other != one) {
                bits &= ~minds.likedHours(now, other);
            }
        }
        return bits;
    }

    // ---- memories that were told

    public int tells(int sheet, int one, int what) {
        if (!isSheet(sheet) || !now.has(one) || !isHour(what - 10) && (what < 0 || what > 8)) {
            return BAD;
        }
        Sheet told = sheets[sheet];
        if (told.isMissing()) {
            return MISSING;
        }
        if (told.size != HOURS) {
            return BAD;
        }
        thought.become(now);
        switch (what) {
            case 0: return firstOtherwise(told, one);
            case 1: return bitsTold(told, one, what, KINDS);
            case 2: return bitsTold(told, one, what, NUMBERS);
            case 3: return yearsTold(told, one, true);
            case 4: return yearsTold(told, one, false);
            case 5: return mendedTold(told, one, true);
            case 6: return mendedTold(told, one, false);
            case 7: return bitsTold(told, one, what, minds.size);
            case 8: return peopleTold(told);
            default: return bitsTold(told, one, what, WEATHERS);
        }
    }

    public int film(int sheet, int one) {
        if (!isSheet(sheet) || !now.has(one)) {
            return NONE_SUCH;
        }
        Sheet film = sheets[sheet];
        film.lay(Sheet.BYTES, HOURS);
        for (int hour = 0; hour < HOURS; hour++) {
            film.write(hour, minds.thinks(now, one, hour));
        }
        return minds.memory(now, one);
    }

    public int drawn(int seed) {
        thought.become(now);
        return hazyBySeed(seed);
    }

    public long chance(int seed, int m, int k, int part) {
        if (m < 1 || m > 20 || k < 0 || k > MOST_PEOPLE || part < 0 || part > 1) {
            return NO;
        }
        thought.become(now);
        int those = 0;
        for (int i = 0; i < m; i++) {
            if (hazyBySeed(seed + i) >= k) {
                those++;
            }
        }
        int divisor = commonDivisor(those, m);
        return (part == 0 ? those : m) / divisor;
    }

    public int image() {
        kept.become(now);
        hasImage = true;
        return now.size;
    }

    public int back() {
        if (!hasImage) {
            return STATE;
        }
        now.become(kept);
        return now.size;
    }

    public int count(int what) {
        switch (what) {
            case 0: return now.size;
            case 1: return Integer.bitCount(now.mended);
            case 2: return now.years;
            case 3: return minds.size;
            case 4: return parser.size;
            case 5: return now.rule;
            default: return BAD;
        }
    }

    /** As all that follow: of what is thought, so that each may suppose first. */
    private int firstOtherwise(Sheet told, int one) {
        for (int hour = 0; hour < HOURS; hour++) {
            if (told.row[hour] != minds.thinks(thought, one, hour)) {
                return hour;
            }
        }
        return NONE;
    }

    private boolean isJustSo(Sheet told, int one) {
        return firstOtherwise(told, one) == NONE;
    }

    /** Which of many are such that all would be so, were each of them supposed. */
    private int bitsTold(Sheet told, int one, int what, int many) {
        int bits = 0;
        for (int i = 0; i < many; i++) {
            suppose(one, what, i);
            if (isJustSo(told, one)) {
                bits |= 1 << i;
            }
        }
        return bits;
    }

    private void suppose(int one, int what, int i) {
        switch (what) {
            case 1: thought.kinds[one] = i; break;
            case 2: thought.numbers[one] = i; break;
            case 7: thought.rule = i; break;
            default: thought.weather[what - 10] = LOWEST_WEATHER + i;
        }
    }

    private int yearsTold(Sheet told, int one, boolean howMany) {
        int many = 0;
        int least = NONE;
        for (int years = LAST_YEAR; years >= 0; years--) {
            thought.years = years;
            if (isJustSo(told, one)) {
                many++;
                least = years;
            }
        }
        return howMany ? many : least;
    }

    /** A thought of an hour asks for no other hour's mending: two looks tell of all the sets. */
    private int mendedTold(Sheet told, int one, boolean howMany) {
        thought.mended = 0;
        int mustBe = ALL_HOURS & ~hoursJustSo(told, one);
        thought.mended = ALL_HOURS;
        int canBe = hoursJustSo(told, one);
        int many = 0;
        int least = NONE;
        for (int set = ALL_HOURS; set >= 0; set--) {
            if ((mustBe & ~set) == 0 && (set & ~canBe) == 0) {
                many++;
                least = set;
            }
        }
        return howMany ? many : least;
    }

    private int hoursJustSo(Sheet told, int one) {
        int bits = 0;
        for (int hour = 0; hour < HOURS; hour++) {
            if (told.row[hour] == minds.thinks(thought, one, hour)) {
                bits |= 1 << hour;
            }
        }
        return bits;
    }

    private int peopleTold(Sheet told) {
        int bits = 0;
        for (int one = 0; one < thought.size; one++) {
            if (isJustSo(told, one)) {
                bits |= 1 << one;
            }
        }
        return bits;
    }

    private int hazyBySeed(int seed) {
        int z = seed;
        for (int hour = 0; hour < HOURS; hour++) {
            z = z * 1103515245 + 12345;
            thought.weather[hour] = (z >>> 9) % WEATHERS + LOWEST_WEATHER;
        }
        return minds.hazyPeople(thought);
    }

    private static int commonDivisor(int a, int b) {
        for (int divisor = b; divisor > 1; divisor--) {
            if (a % divisor == 0 && b % divisor == 0) {
                return divisor;
            }
        }
        return 1;
    }

    // ---- the host

    public int sheet(int sheet, int sort, int n) {
        if (!isSheet(sheet) || sort != Sheet.NO_SORT && !isSort(sort)) {
            return BAD;
        }
        if (sort == Sheet.NO_SORT) {
            sheets[sheet].lay(sort, 0);
            return 1;
        }
        if (n > MOST_ITEMS) {
            return BAD;
        }
        if (n < 0) {
            return BELOW_0;
        }
        sheets[sheet].lay(sort, n);
        return 1;
    }

    public int cell(int sheet, int i, int v) {
        if (!isSheet(sheet)) {
            return BAD;
        }
        Sheet row = sheets[sheet];
        if (row.isMissing()) {
            return MISSING;
        }
        if (!row.has(i)) {
            return OUTSIDE;
        }
        row.write(i, v);
        return 1;
    }

    public int copy(int sheet, int i, int other, int j, int n) {
        if (!isSheet(sheet) || !isSheet(other)) {
            return BAD;
        }
        Sheet from = sheets[sheet];
        Sheet to = sheets[other];
        if (from.isMissing() || to.isMissing()) {
            return MISSING;
        }
        if (from.sort != to.sort) {
            return OTHER_SORT;
        }
        if (!from.hasRun(i, n) || !to.hasRun(j, n)) {
            return OUTSIDE;
        }
        System.arraycopy(from.row, i, to.row, j, n);
        return n;
    }

    public int people(int sheet, int sort, int from, int n) {
        if (!isSheet(sheet) || !isSort(sort) || n < 0 || n > MOST_PEOPLE) {
            return BAD;
        }
        Sheet list = sheets[sheet];
        if (list.isMissing()) {
            return MISSING;
        }
        if (list.sort != sort) {
            return OTHER_SORT;
        }
        int came = 0;
        for (int i = 0; i < n; i++) {
            // from itself is looked at first: a place of the list can't wrap by what is added.
            if (!list.has(from) || !list.has(from + 2 * i) || !list.has(from + 2 * i + 1)) {
                return OUTSIDE;
            }
            if (person(list.row[from + 2 * i], list.row[from + 2 * i + 1]) >= 0) {
                came++;
            }
        }
        return came;
    }

    public int taken(int one, int k) {
        if (k < 0 || k >= KINDS) {
            return BAD;
        }
        if (!now.has(one)) {
            return MISSING;
        }
        return Kinds.isUnder(now.kinds[one], k) ? now.numbers[one] : OTHER_SORT;
    }

    private static boolean isSheet(int sheet) {
        return sheet >= 0 && sheet < SHEETS;
    }

    private static boolean isSort(int sort) {
        return sort >= Sheet.BYTES && sort <= Sheet.INTS;
    }

    private static int within(int lowest, int v, int highest) {
        return v < lowest ? lowest : v > highest ? highest : v;
    }

    /** All that an image keeps: of what is so, of what was kept, and of what is only thought. */
    private static final class Outing {
        final int[] weather = new int[HOURS];
        /** The mended hours, as bits. */
        int mended = 0;
        int years = 0;
        int limit = 0;
        int purse = 100;
        int rule = 0;
        int size = 0;
        final int[] kinds = new int[MOST_PEOPLE];
        final int[] numbers = new int[MOST_PEOPLE];
        final int[] premiums = new int[MOST_PEOPLE];

        void become(Outing other) {
            System.arraycopy(other.weather, 0, weather, 0, HOURS);
            mended = other.mended;
            years = other.years;
            limit = other.limit;
            purse = other.purse;
            rule = other.rule;
            size = other.size;
            System.arraycopy(other.kinds, 0, kinds, 0, MOST_PEOPLE);
            System.arraycopy(other.numbers, 0, numbers, 0, MOST_PEOPLE);
            System.arraycopy(other.premiums, 0, premiums, 0, MOST_PEOPLE);
        }

        boolean has(int one) {
            return one >= 0 && one < size;
        }

        int welcome(int kind, int number) {
            if (size >= MOST_PEOPLE) {
                return FULL;
            }
            int one = size;
            kinds[one] = kind;
            numbers[one] = number;
            premiums[one] = 5;
            size++;
            return one;
        }

        int mendedAt(int hour) {
            return mended >> hour & 1;
        }

        int weatherAhead(int hour) {
            return hour > 0 ? weather[hour - 1] : 0;
        }

        int premiumsOfAll() {
            int sum = 0;
            for (int one = 0; one < size; one++) {
                sum += premiums[one];
            }
            return sum;
        }

        void earn(int sum) {
            purse = within(LOWEST[PURSE], purse + sum, HIGHEST[PURSE]);
        }
    }

    /** What the kinds make of what a text tells. */
    private static final class Kinds {
        /** A guest, kind 0, is what each switch has left. */
        static final int MOTHER = 1, BOY = 2, AUNT = 3, BABY = 4, WIDOW = 5;
        /** The kind above each, NONE above a guest. */
        private static final int[] ABOVE = {-1, 0, 0, 1, 2, 0};

        static int thinks(int kind, int v, int hour, int years, int number) {
            int mothers = v < 0 ? 0 : v;
            int boys = hour == number % HOURS ? 2 * v : 0;
            switch (kind) {
                case MOTHER: return mothers;
                case BOY: return boys;
                case AUNT: return years < number ? mothers - 5 : mothers;
                case BABY: return hour == 7 ? 9 : boys;
                case WIDOW: return v < 0 ? -v : v;
                default: return v;
            }
        }

        static int mending(int kind, int v, int number) {
            switch (kind) {
                case MOTHER: return v / 2;
                case BOY: case BABY: return 1;
                case AUNT: return v / 2 + number;
                case WIDOW: return 0;
                default: return v;
            }
        }

        static int claims(int kind, int v, int number) {
            switch (kind) {
                case BOY: case BABY: return 0;
                case AUNT: return 2 * v;
                case WIDOW: return -number;
                default: return v;
            }
        }

        static boolean isUnder(int kind, int other) {
            int at = kind;
            for (int i = 0; i < KINDS && at >= 0 && at < KINDS; i++) {
                if (at == other) {
                    return true;
                }
                at = ABOVE[at];
            }
            return false;
        }
    }

    /** What people think, by the texts: every function tells of the outing that it is given. */
    private static final class Minds {
        private final Text[] texts = new Text[MOST_TEXTS];
        int size = 0;
        private final Machine machine = new Machine();

        int add(Text text) {
            texts[size] = text;
            size++;
            return size - 1;
        }

        int thinks(Outing outing, int one, int hour) {
            machine.know(outing, one);
            machine.knowHour(outing, hour);
            int v = within(-99, machine.valueOf(texts[outing.rule], Text.THINKS), 99);
            return within(-99, Kinds.thinks(outing.kinds[one], v, hour, outing.years, outing.numbers[one]), 99);
        }

        int mending(Outing outing, int one, int hour) {
            machine.know(outing, one);
            machine.knowHour(outing, hour);
            int v = within(0, machine.valueOf(texts[outing.rule], Text.MENDS), 99);
            return within(0, Kinds.mending(outing.kinds[one], v, outing.numbers[one]), 99);
        }

        int memory(Outing outing, int one) {
            int sum = 0;
            for (int hour = 0; hour < HOURS; hour++) {
                sum += thinks(outing, one, hour);
            }
            return sum;
        }

        boolean isHazy(Outing outing, int one) {
            return memory(outing, one) >= outing.limit;
        }

        int claimed(Outing outing, int one) {
            if (memory(outing, one) >= outing.limit) {
                return 0;
            }
            machine.know(outing, one);
            int v = within(0, machine.valueOf(texts[outing.rule], Text.CLAIMS), 99);
            return within(-99, Kinds.claims(outing.kinds[one], v, outing.numbers[one]), 999);
        }

        int hazyPeople(Outing outing) {
            int many = 0;
            for (int one = 0; one < outing.size; one++) {
                if (isHazy(outing, one)) {
                    many++;
                }
            }
            return many;
        }

        int due(Outing outing) {
            int sum = 0;
            for (int one = 0; one < outing.size; one++) {
                sum += claimed(outing, one);
            }
            return sum;
        }

        int cost(Outing outing, int hour) {
            int sum = 0;
            for (int one = 0; one < outing.size; one++) {
                sum += mending(outing, one, hour);
            }
            return sum;
        }

        int likedHours(Outing outing, int one) {
            int bits = 0;
            for (int hour = 0; hour < HOURS; hour++) {
                if (thinks(outing, one, hour) > 0) {
                    bits |= 1 << hour;
                }
            }
            return bits;
        }

        void passYear(Outing outing) {
            int due = due(outing);
            outing.earn(outing.premiumsOfAll());
            outing.earn(-due);
            outing.years++;
        }
    }

    /** A text that has been read: its three parts in one row, operands ahead of their signs. */
    private static final class Text {
        static final int THINKS = 0, MENDS = 1, CLAIMS = 2, PARTS = 3;

        /** A number stands as itself, all else as 0 less its token. */
        final int[] code;
        /** Part p stands from ends[p] on, till ahead of ends[p + 1]. */
        final int[] ends;

        Text(int[] code, int size, int[] ends) {
            this.code = new int[size];
            System.arraycopy(code, 0, this.code, 0, size);
            this.ends = ends;
        }
    }

    /** Tokens: a sign is its byte, a word stands from FIRST_WORD on. */
    private static final class Token {
        static final int END = 0, NUMBER = 1, BROKEN = 2, NEGATE = 3;
        static final int FIRST_WORD = 200, BEHIND_WORDS = 212;
        static final int WEATHER = 200, HOUR = 201, YEARS = 202, NUMBER_NAME = 203, MENDED = 204, LAST = 205;
        static final int THINKS = 206;
        static final int OR = 209, AND = 210, NOT = 211;

        static String spelling(int word) {
            switch (word) {
                case WEATHER: return "weather";
                case HOUR: return "hour";
                case YEARS: return "years";
                case NUMBER_NAME: return "number";
                case MENDED: return "mended";
                case LAST: return "last";
                case THINKS: return "thinks";
                case THINKS + 1: return "mends";
                case THINKS + 2: return "claims";
                case OR: return "or";
                case AND: return "and";
                case NOT: return "not";
                default: return "";
            }
        }

        static boolean isName(int token) {
            return token >= WEATHER && token <= LAST;
        }

        static boolean isSign(int letter) {
            switch (letter) {
                case '(': case ')': case ';': case '+': case '-': case '*': case '<': case '=': return true;
                default: return false;
            }
        }
    }

    /** Tells what a part of a text is worth. */
    private static final class Machine {
        /** By the order of the names' tokens. */
        private final int[] names = new int[6];
        private final int[] stack = new int[MOST_BYTES];

        /** What a claim may know: of the hour, nothing. */
        void know(Outing outing, int one) {
            names[Token.WEATHER - Token.FIRST_WORD] = 0;
            names[Token.HOUR - Token.FIRST_WORD] = 0;
            names[Token.YEARS - Token.FIRST_WORD] = outing.years;
            names[Token.NUMBER_NAME - Token.FIRST_WORD] = outing.numbers[one];
            names[Token.MENDED - Token.FIRST_WORD] = 0;
            names[Token.LAST - Token.FIRST_WORD] = 0;
        }

        void knowHour(Outing outing, int hour) {
            names[Token.WEATHER - Token.FIRST_WORD] = outing.weather[hour];
            names[Token.HOUR - Token.FIRST_WORD] = hour;
            names[Token.MENDED - Token.FIRST_WORD] = outing.mendedAt(hour);
            names[Token.LAST - Token.FIRST_WORD] = outing.weatherAhead(hour);
        }

        int valueOf(Text text, int part) {
            int top = 0;
            int end = text.ends[part + 1];
            for (int i = text.ends[part]; i < end; i++) {
                int token = -text.code[i];
                if (token <= 0 || Token.isName(token)) {
                    if (top >= stack.length) {
                        return 0;
                    }
                    stack[top] = token <= 0 ? -token : names[token - Token.FIRST_WORD];
                    top++;
                } else if (token == Token.NEGATE || token == Token.NOT) {
                    if (top < 1) {
                        return 0;
                    }
                    int v = stack[top - 1];
                    stack[top - 1] = token == Token.NEGATE ? -v : v == 0 ? 1 : 0;
                } else {
                    if (top < 2) {
                        return 0;
                    }
                    top--;
                    stack[top - 1] = joined(token, stack[top - 1], stack[top]);
                }
            }
            return stack[0];
        }

        private static int joined(int token, int a, int b) {
            switch (token) {
                case '+': return a + b;
                case '-': return a - b;
                case '*': return a * b;
                case '<': return a < b ? 1 : 0;
                case '=': return a == b ? 1 : 0;
                case Token.OR: return a != 0 || b != 0 ? 1 : 0;
                default: return a != 0 && b != 0 ? 1 : 0;
            }
        }
    }

    /** The tape, and what reads it, a token in hand: the first that can't stand is the fault, and nothing stands behind it. */
    private static final class Parser {
        private static final int MOST_OPEN = 5, MOST_DIGITS = 4;

        private final int[] tape = new int[MOST_BYTES];
        /** How many bytes the tape has. */
        int size = 0;
        private int token = Token.END;
        /** Where the token in hand begins, and where the next may. */
        private int place = 0;
        private int next = 0;
        private int number = 0;
        /** How many of ( and not and - ahead of a ONE are open. */
        private int open = 0;
        /** As many bytes as the tape has: a code needs one at least. */
        private final int[] code = new int[MOST_BYTES];
        private int codeSize = 0;
        int fault = NONE;

        int take(int letter) {
            if (size >= tape.length) {
                return FULL;
            }
            tape[size] = letter;
            size++;
            return size;
        }

        /** A text, or null: then fault tells the place. */
        Text parse() {
            next = 0;
            open = 0;
            codeSize = 0;
            fault = NONE;
            int[] ends = new int[Text.PARTS + 1];
            advance();
            for (int part = 0; part < Text.PARTS; part++) {
                expect(Token.THINKS + part);
                expression();
                ends[part + 1] = codeSize;
                expect(';');
            }
            if (token != Token.END) {
                refuse();
            }
            return fault == NONE ? new Text(code, codeSize, ends) : null;
        }

        private void expression() {
            conjunction();
            for (int i = 0; i < MOST_BYTES && token == Token.OR; i++) {
                advance();
                conjunction();
                emit(-Token.OR);
            }
        }

        private void conjunction() {
            negation();
            for (int i = 0; i < MOST_BYTES && token == Token.AND; i++) {
                advance();
                negation();
                emit(-Token.AND);
            }
        }

        private void negation() {
            if (token == Token.NOT) {
                if (opens()) {
                    negation();
                    open--;
                    emit(-Token.NOT);
                }
                return;
            }
            sum();
            if (token == '<' || token == '=') {
                int sign = token;
                advance();
                sum();
                emit(-sign);
            }
        }

        private void sum() {
            term();
            for (int i = 0; i < MOST_BYTES && (token == '+' || token == '-'); i++) {
                int sign = token;
                advance();
                term();
                emit(-sign);
            }
        }

        private void term() {
            single();
            for (int i = 0; i < MOST_BYTES && token == '*'; i++) {
                advance();
                single();
                emit(-'*');
            }
        }

        /** The document's ONE. */
        private void single() {
            if (token == Token.NUMBER) {
                emit(number);
                advance();
            } else if (Token.isName(token)) {
                emit(-token);
                advance();
            } else if (token == '-') {
                if (opens()) {
                    single();
                    open--;
                    emit(-Token.NEGATE);
                }
            } else if (token == '(') {
                if (opens()) {
                    expression();
                    open--;
                    expect(')');
                }
            } else {
                refuse();
            }
        }

        private boolean opens() {
            if (open >= MOST_OPEN) {
                refuse();
                return false;
            }
            open++;
            advance();
            return true;
        }

        private void expect(int wanted) {
            if (token == wanted) {
                advance();
            } else {
                refuse();
            }
        }

        /** A broken token stands nowhere, so that all who look at it let go. */
        private void refuse() {
            if (fault == NONE) {
                fault = place;
            }
            token = Token.BROKEN;
        }

        private void emit(int what) {
            if (codeSize < code.length) {
                code[codeSize] = what;
                codeSize++;
            }
        }

        private void advance() {
            while (next < size && (tape[next] == 32 || tape[next] == 10)) {
                next++;
            }
            place = next;
            if (place >= size) {
                token = Token.END;
            } else if (isLetter(tape[place])) {
                readWord();
            } else if (isDigit(tape[place])) {
                readNumber();
            } else if (Token.isSign(tape[place])) {
                token = tape[place];
                next++;
            } else {
                refuse();
            }
        }

        private void readWord() {
            while (next < size && isLetter(tape[next])) {
                next++;
            }
            for (int word = Token.FIRST_WORD; word < Token.BEHIND_WORDS; word++) {
                if (isSpelled(Token.spelling(word))) {
                    token = word;
                    return;
                }
            }
            refuse();
        }

        private boolean isSpelled(String word) {
            if (word.length() != next - place) {
                return false;
            }
            for (int i = 0; i < word.length(); i++) {
                if (word.charAt(i) != tape[place + i]) {
                    return false;
                }
            }
            return true;
        }

        private void readNumber() {
            number = 0;
            while (next < size && isDigit(tape[next])) {
                number = number * 10 + tape[next] - '0';
                next++;
            }
            if (next - place > MOST_DIGITS) {
                refuse();
            } else {
                token = Token.NUMBER;
            }
        }

        private static boolean isLetter(int letter) {
            return letter >= 'a' && letter <= 'z';
        }

        private static boolean isDigit(int letter) {
            return letter >= '0' && letter <= '9';
        }
    }

    /** Of every set of hours, as bits: what it costs to mend it, and how many are hazy by it. */
    private static final class Remedies {
        final int[] costs = new int[SETS];
        final int[] hazy = new int[SETS];
        /** What one remembers by each set. */
        final int[] memories = new int[SETS];
        /** What each hour adds. */
        final int[] steps = new int[HOURS];

        void clear() {
            for (int set = 0; set < SETS; set++) {
                hazy[set] = 0;
            }
        }

        void sumSteps(int start, int[] sums) {
            sums[0] = start;
            for (int hour = 0; hour < HOURS; hour++) {
                int bit = 1 << hour;
                for (int set = 0; set < bit; set++) {
                    sums[bit + set] = sums[set] + steps[hour];
                }
            }
        }

        void countHazy(int limit) {
            for (int set = 0; set < SETS; set++) {
                if (memories[set] >= limit) {
                    hazy[set]++;
                }
            }
        }

        int cheapestFor(int m, int mended) {
            int best = NONE;
            for (int set = 0; set < SETS; set++) {
                if ((set & mended) == 0 && hazy[set] >= m && (best == NONE || costs[set] < costs[best])) {
                    best = set;
                }
            }
            return best;
        }

        /** The empty set costs nothing: there is always one. */
        int mostWithin(int x, int mended) {
            int best = 0;
            for (int set = 1; set < SETS; set++) {
                if ((set & mended) == 0 && costs[set] <= x && isBetter(set, best)) {
                    best = set;
                }
            }
            return best;
        }

        private boolean isBetter(int set, int other) {
            return hazy[set] > hazy[other] || hazy[set] == hazy[other] && costs[set] < costs[other];
        }
    }

    /** A row of numbers, or none: its items stay in one row of the greatest size. */
    private static final class Sheet {
        static final int NO_SORT = -1, BYTES = 0, SHORTS = 1, INTS = 2;

        int sort = NO_SORT;
        int size = 0;
        final int[] row = new int[MOST_ITEMS];

        boolean isMissing() {
            return sort == NO_SORT;
        }

        boolean has(int i) {
            return i >= 0 && i < size;
        }

        /** Whether n items from i on are there; told so that no place wraps. */
        boolean hasRun(int i, int n) {
            return i >= 0 && n >= 0 && n <= size && i <= size - n;
        }

        void lay(int newSort, int n) {
            sort = newSort;
            size = n;
            for (int i = 0; i < MOST_ITEMS; i++) {
                row[i] = 0;
            }
        }

        void write(int i, int v) {
            switch (sort) {
                case BYTES: row[i] = (byte) v; break;
                case SHORTS: row[i] = (short) v; break;
                default: row[i] = v;
            }
        }
    }
}
