/** A lake town that writes its debts on the ice; every answer is told in ../shared/DOC.md. */
public final class NamesOnIce {
    public static final int NONE = -1, UNKNOWN = -101, OUTSIDE = -102, STATE = -103, FULL = -104;

    private static final int UNKNOWN_PERSON = -100001;
    private static final int PEOPLE = 6;
    private static final int KINDS = 5, DEEP = 1, PLEDGE = 2, BREATH = 3, STRAW = 4;
    private static final int MOST_SQUARES = 16, MOST_DEBTS = 10;
    private static final int MOST_SUM = 99, MOST_CUT = 9;
    private static final int FIRST_ICE = 10, MOST_ICE = 99, BEARING_ICE = 4, MOST_SNOW = 9;
    private static final int COLD = 0, THAW = 1, SNOW = 2, WIND = 3;
    private static final int MOST_LETTERS = 24, MOST_DAYS = 12, MOST_CODE = 126, BYTES = 8;
    private static final int MOST_SLEDGES = 3, MOST_BORNE = 200, MOST_LOADINGS = 20;
    private static final int MOST_ODDS_DAYS = 9, MOST_WINTER_DAYS = 60;

    private final Town town;
    private final Town kept;
    private final Town trial;
    private final Page page;
    private final Skater skater;
    private final Loading loading;
    private final Settling settling;
    private boolean imageStands;
    private int loadings;

    public NamesOnIce() {
        town = new Town();
        kept = new Town();
        trial = new Town();
        page = new Page();
        skater = new Skater();
        loading = new Loading();
        settling = new Settling();
        town.begin(3, 3);
    }

    // ---- the lake

    public int lake(int rows, int wide) {
        if (!within(rows, 2, 4) || !within(wide, 2, 4)) {
            return OUTSIDE;
        }
        town.begin(rows, wide);
        imageStands = false;
        return town.squares;
    }

    public int ice(int square, int v) {
        if (!town.hasSquare(square)) {
            return UNKNOWN;
        }
        if (!within(v, 0, MOST_ICE)) {
            return OUTSIDE;
        }
        if (town.debtsThereIn(square) > 0) {
            return STATE;
        }
        int before = town.ice[square];
        town.ice[square] = v;
        return before;
    }

    public int square(int square, int what) {
        if (!town.hasSquare(square)) {
            return UNKNOWN;
        }
        switch (what) {
            case 0:
                return town.ice[square];
            case 1:
                return town.snow;
            case 2:
                return town.debtsThereIn(square);
            case 3:
                return town.ice[square] >= BEARING_ICE ? 1 : 0;
            default:
                return OUTSIDE;
        }
    }

    public int fish(int square) {
        if (!town.hasSquare(square)) {
            return UNKNOWN;
        }
        if (town.ice[square] == 0) {
            return STATE;
        }
        return town.makeHole(square);
    }

    // ---- debts

    public int write(int kind, int square, int debtor, int creditor, int sum, int cut) {
        if (!town.hasSquare(square) || !arePair(debtor, creditor)) {
            return UNKNOWN;
        }
        if (!isKind(kind) || !within(sum, 1, MOST_SUM) || !within(cut, 1, MOST_CUT)) {
            return OUTSIDE;
        }
        if (town.ice[square] < Debt.depthOf(kind, cut)) {
            return STATE;
        }
        if (town.debts >= MOST_DEBTS) {
            return FULL;
        }
        int number = town.debts;
        Debt debt = town.debt[number];
        debt.concern(kind, square, debtor, creditor);
        debt.cutIn(sum, Debt.depthOf(kind, cut));
        town.debts = number + 1;
        return number;
    }

    public int about(int debt, int what) {
        if (!town.hasDebt(debt)) {
            return UNKNOWN;
        }
        Debt told = town.debt[debt];
        switch (what) {
            case 0:
                return told.kind;
            case 1:
                return told.place;
            case 2:
                return told.debtor;
            case 3:
                return told.creditor;
            case 4:
                return told.sum;
            case 5:
                return told.cut;
            case 6:
                return town.worthOf(debt);
            case 7:
                return conditionOf(told);
            default:
                return OUTSIDE;
        }
    }

    private int conditionOf(Debt debt) {
        if (debt.saved) {
            return 3;
        }
        if (!debt.isThere()) {
            return 0;
        }
        return town.snow > 0 ? 1 : 2;
    }

    public int as(int debt, int kind) {
        if (!town.hasDebt(debt)) {
            return UNKNOWN;
        }
        if (!isKind(kind)) {
            return OUTSIDE;
        }
        return Debt.isOfKind(town.debt[debt].kind, kind) ? debt : NONE;
    }

    public int saw(int debt) {
        if (!town.hasDebt(debt)) {
            return UNKNOWN;
        }
        if (!town.debt[debt].isThere()) {
            return STATE;
        }
        int weight = town.iceUnder(debt);
        town.debt[debt].keepBlock(weight);
        return weight;
    }

    // ---- days

    public int letters(long w) {
        int more = Page.lettersIn(w);
        if (more < 0) {
            return OUTSIDE;
        }
        if (page.size + more > MOST_LETTERS) {
            return FULL;
        }
        page.append(w, more);
        return page.size;
    }

    public int blank() {
        int had = page.size;
        page.size = 0;
        return had;
    }

    public int fault() {
        return page.firstWrong();
    }

    public int days() {
        if (!page.isDays()) {
            return STATE;
        }
        int gone = 0;
        for (int at = 0; at < page.size; at++) {
            if (page.beginsDay(at)) {
                gone += town.passDay(page.dayAt(at), page.inchesAt(at));
                town.daysGone++;
            }
        }
        page.size = 0;
        return gone;
    }

    public int needed(int kind, int square) {
        if (!town.hasSquare(square)) {
            return UNKNOWN;
        }
        if (!isKind(kind)) {
            return OUTSIDE;
        }
        if (!page.isDays()) {
            return STATE;
        }
        int ice = town.ice[square];
        for (int cut = 1; cut <= MOST_CUT; cut++) {
            int depth = Debt.depthOf(kind, cut);
            if (depth <= ice && page.outlasts(kind, depth, ice)) {
                return cut;
            }
        }
        return NONE;
    }

    public int bears(int square) {
        if (!town.hasSquare(square)) {
            return UNKNOWN;
        }
        if (!page.isDays()) {
            return STATE;
        }
        return page.daysUntilBearing(town.ice[square]);
    }

    // ---- who owes whom

    public int owes(int a, int b, boolean read) {
        if (!arePair(a, b)) {
            return UNKNOWN;
        }
        int owed = 0;
        for (int i = 0; i < town.debts; i++) {
            Debt debt = town.debt[i];
            boolean told = !read || conditionOf(debt) >= 2;
            if (told && debt.debtor == a && debt.creditor == b) {
                owed += town.worthOf(i);
            }
        }
        return owed;
    }

    public int rest(int person) {
        return isPerson(person) ? town.restOf(person) : UNKNOWN_PERSON;
    }

    public int sledges(int sledges, int bears, int what) {
        if (!within(sledges, 1, MOST_SLEDGES) || !within(bears, 1, MOST_BORNE) || !within(what, 0, 1)) {
            return OUTSIDE;
        }
        if (loadings >= MOST_LOADINGS) {
            return STATE;
        }
        loadings++;
        loading.choose(town, sledges, bears);
        return what == 0 ? loading.bestWorth : loading.bestBits;
    }

    public int settled(int what) {
        if (!within(what, 0, 1)) {
            return OUTSIDE;
        }
        int groups = settling.mostGroups(town);
        // A group of n people is settled by n - 1 payments, and by no fewer if it can't be parted.
        return what == 0 ? PEOPLE - groups : groups;
    }

    public int skate(int a, int b, int what) {
        if (!town.hasSquare(a) || !town.hasSquare(b)) {
            return UNKNOWN;
        }
        if (!within(what, 0, 1)) {
            return OUTSIDE;
        }
        skater.roam(town, a);
        if (skater.steps[b] < 0) {
            return NONE;
        }
        return what == 0 ? skater.steps[b] : skater.gain[b];
    }

    // ---- odds, winters

    public long odds(int debt, int days, int tenths, int inches, int part) {
        if (!town.hasDebt(debt)) {
            return UNKNOWN;
        }
        if (!within(days, 1, MOST_ODDS_DAYS) || !within(tenths, 0, 9)
                || !within(inches, 1, 9) || !within(part, 0, 1)) {
            return OUTSIDE;
        }
        long above = 0;
        int outlasted = thawsOutlasted(debt, days, inches);
        for (int thaws = 0; thaws <= outlasted; thaws++) {
            above += choose(days, thaws) * power(tenths, thaws) * power(10 - tenths, days - thaws);
        }
        long below = power(10, days);
        long common = commonDivisor(above, below);
        if (common <= 0) {
            return NONE;
        }
        return (part == 0 ? above : below) / common;
    }

    /** How many of so many THAWS leave the DEBT THERE; -1 if it is GONE already. */
    private int thawsOutlasted(int number, int days, int inches) {
        Debt debt = town.debt[number];
        if (debt.saved) {
            return days;
        }
        int ice = town.iceUnder(number);
        int cut = debt.cut;
        int outlasted = -1;
        for (int thaws = 0; thaws <= days && cut > 0; thaws++) {
            outlasted = thaws;
            ice = iceBehind(THAW, inches, ice);
            cut = Debt.cutBehindThaw(debt.kind, cut, inches, ice);
        }
        return outlasted;
    }

    public int winter(int days, int seed, int what) {
        if (!within(days, 1, MOST_WINTER_DAYS) || seed < 0 || !within(what, 0, 2)) {
            return OUTSIDE;
        }
        trial.copyFrom(town);
        int next = seed;
        for (int i = 0; i < days; i++) {
            next = nextSeed(next);
            int day = drawFrom(next, 4);
            int inches = 0;
            if (day == COLD || day == THAW) {
                next = nextSeed(next);
                inches = drawFrom(next, 9) + 1;
            }
            trial.passDay(day, inches);
        }
        if (what == 2) {
            return next;
        }
        return what == 0 ? trial.debtsStanding() : trial.iceTogether();
    }

    private static int nextSeed(int seed) {
        return (int) ((1103515245L * seed + 12345L) & 0x7fffffffL);
    }

    private static int drawFrom(int seed, int of) {
        return of > 0 ? (seed >> 16) % of : 0;
    }

    // ---- what is told of all

    public int image() {
        kept.copyFrom(town);
        imageStands = true;
        return town.debts;
    }

    public int restore() {
        if (!imageStands) {
            return STATE;
        }
        town.copyFrom(kept);
        return town.debts;
    }

    public int count(int what) {
        switch (what) {
            case 0:
                return town.squares;
            case 1:
                return town.debts;
            case 2:
                return town.debtsStanding();
            case 3:
                return town.daysGone;
            case 4:
                return page.size;
            case 5:
                return loadings;
            default:
                return OUTSIDE;
        }
    }

    public long digest() {
        long h = 617;
        for (int i = 0; i < town.squares; i++) {
            for (int what = 0; what <= 3; what++) {
                h = 31 * h + square(i, what);
            }
        }
        for (int i = 0; i < town.debts; i++) {
            for (int what = 0; what <= 7; what++) {
                h = 31 * h + about(i, what);
            }
        }
        for (int person = 0; person < PEOPLE; person++) {
            h = 31 * h + rest(person);
        }
        h = 31 * h + settled(0);
        h = 31 * h + settled(1);
        h = 31 * h + skate(0, town.squares - 1, 0);
        h = 31 * h + skate(0, town.squares - 1, 1);
        for (int i = 0; i < page.size; i++) {
            h = 31 * h + page.codes[i];
        }
        for (int what = 0; what <= 5; what++) {
            h = 31 * h + count(what);
        }
        return h;
    }

    private static boolean within(int v, int least, int most) {
        return v >= least && v <= most;
    }

    private static boolean isKind(int kind) {
        return within(kind, 0, KINDS - 1);
    }

    private static boolean isPerson(int person) {
        return within(person, 0, PEOPLE - 1);
    }

    private static boolean arePair(int a, int b) {
        return isPerson(a) && isPerson(b) && a != b;
    }

    private static int iceBehind(int day, int inches, int ice) {
        if (day == COLD) {
            return Math.min(MOST_ICE, ice + inches);
        }
        return day == THAW ? Math.max(0, ice - inches) : ice;
    }

    private static long power(int base, int times) {
        long product = 1;
        for (int i = 0; i < times; i++) {
            product *= base;
        }
        return product;
    }

    private static long choose(int of, int taken) {
        long ways = 1;
        for (int i = 1; i <= taken; i++) {
            ways = ways * (of - taken + i) / i;
        }
        return ways;
    }

    private static long commonDivisor(long a, long b) {
        long greater = b;
        long less = a;
        // Below 2 to the 62 no two numbers need a hundred steps.
        for (int i = 0; i < 100 && less != 0; i++) {
            long left = greater % less;
            greater = less;
            less = left;
        }
        return greater;
    }

    /** One DEBT; its cut is 0 from when it is GONE. */
    private static final class Debt {
        int kind;
        int place;
        int debtor;
        int creditor;
        int sum;
        int cut;
        boolean saved;
        int savedIce;

        static int depthOf(int kind, int cut) {
            return kind == DEEP ? 2 * cut : cut;
        }

        static boolean isOfKind(int own, int asked) {
            return asked == 0 || own == asked || (asked == PLEDGE && own == STRAW);
        }

        static int cutBehindThaw(int kind, int cut, int inches, int iceThen) {
            if (kind == BREATH || iceThen == 0) {
                return 0;
            }
            int lost = kind == STRAW ? (inches + 1) / 2 : inches;
            return Math.max(0, cut - lost);
        }

        void concern(int ofKind, int square, int from, int to) {
            kind = ofKind;
            place = square;
            debtor = from;
            creditor = to;
        }

        void cutIn(int ofSum, int depth) {
            sum = ofSum;
            cut = depth;
            saved = false;
            savedIce = 0;
        }

        void keepBlock(int weight) {
            saved = true;
            savedIce = weight;
        }

        void copyFrom(Debt other) {
            concern(other.kind, other.place, other.debtor, other.creditor);
            cutIn(other.sum, other.cut);
            saved = other.saved;
            savedIce = other.savedIce;
        }

        boolean isThere() {
            return cut > 0 && !saved;
        }

        int worthOn(int iceNow) {
            if (cut == 0) {
                return 0;
            }
            int under = saved ? savedIce : iceNow;
            return isOfKind(kind, PLEDGE) ? sum + under / 10 : sum;
        }
    }

    /** What an IMAGE keeps. SNOW is one number, since all that changes it changes it in all SQUARES. */
    private static final class Town {
        int wide;
        int squares;
        int snow;
        int daysGone;
        int debts;
        final int[] ice = new int[MOST_SQUARES];
        final Debt[] debt = new Debt[MOST_DEBTS];

        Town() {
            for (int i = 0; i < MOST_DEBTS; i++) {
                debt[i] = new Debt();
            }
        }

        void begin(int rows, int squaresInRow) {
            wide = squaresInRow;
            squares = rows * squaresInRow;
            snow = 0;
            daysGone = 0;
            debts = 0;
            for (int i = 0; i < MOST_SQUARES; i++) {
                ice[i] = FIRST_ICE;
            }
        }

        void copyFrom(Town other) {
            wide = other.wide;
            squares = other.squares;
            snow = other.snow;
            daysGone = other.daysGone;
            debts = other.debts;
            for (int i = 0; i < MOST_SQUARES; i++) {
                ice[i] = other.ice[i];
            }
            for (int i = 0; i < debts; i++) {
                debt[i].copyFrom(other.debt[i]);
            }
        }

        boolean hasSquare(int square) {
            return square >= 0 && square < squares;
        }

        boolean hasDebt(int number) {
            return number >= 0 && number < debts;
        }

        boolean bearsSkater(int square) {
            return hasSquare(square) && ice[square] >= BEARING_ICE;
        }

        int iceUnder(int number) {
            int place = debt[number].place;
            return hasSquare(place) ? ice[place] : 0;
        }

        int worthOf(int number) {
            return debt[number].worthOn(iceUnder(number));
        }

        int debtsThereIn(int square) {
            int there = 0;
            for (int i = 0; i < debts; i++) {
                if (debt[i].isThere() && debt[i].place == square) {
                    there++;
                }
            }
            return there;
        }

        int debtsStanding() {
            int standing = 0;
            for (int i = 0; i < debts; i++) {
                if (debt[i].cut > 0) {
                    standing++;
                }
            }
            return standing;
        }

        int iceTogether() {
            int together = 0;
            for (int i = 0; i < squares; i++) {
                together += ice[i];
            }
            return together;
        }

        int restOf(int person) {
            int left = 0;
            for (int i = 0; i < debts; i++) {
                if (debt[i].creditor == person) {
                    left += worthOf(i);
                }
                if (debt[i].debtor == person) {
                    left -= worthOf(i);
                }
            }
            return left;
        }

        int readableIn(int square) {
            int worth = 0;
            for (int i = 0; i < debts; i++) {
                if (snow == 0 && debt[i].isThere() && debt[i].place == square) {
                    worth += worthOf(i);
                }
            }
            return worth;
        }

        int makeHole(int square) {
            int gone = 0;
            ice[square] = 0;
            for (int i = 0; i < debts; i++) {
                if (debt[i].isThere() && debt[i].place == square) {
                    debt[i].cut = 0;
                    gone++;
                }
            }
            return gone;
        }

        int passDay(int day, int inches) {
            if (day == SNOW) {
                snow = Math.min(MOST_SNOW, snow + 1);
            } else if (day == WIND || day == THAW) {
                snow = 0;
            }
            for (int i = 0; i < squares; i++) {
                ice[i] = iceBehind(day, inches, ice[i]);
            }
            return day == THAW ? meltCuts(inches) : 0;
        }

        private int meltCuts(int inches) {
            int gone = 0;
            for (int i = 0; i < debts; i++) {
                if (debt[i].isThere()) {
                    debt[i].cut = Debt.cutBehindThaw(debt[i].kind, debt[i].cut, inches, iceUnder(i));
                    gone += debt[i].cut == 0 ? 1 : 0;
                }
            }
            return gone;
        }
    }

    /** THE PAGE, and what its DAYS would do to a single SQUARE. */
    private static final class Page {
        final int[] codes = new int[MOST_LETTERS];
        int size;

        static int codeAt(long w, int at) {
            return (int) ((w >>> (8 * at)) & 255);
        }

        /** How many letters w tells; -1 if it is not as told. */
        static int lettersIn(long w) {
            int told = 0;
            for (int i = 0; i < BYTES; i++) {
                int code = codeAt(w, i);
                if (code > MOST_CODE || (code != 0 && told < i)) {
                    return -1;
                }
                told += code != 0 ? 1 : 0;
            }
            return told;
        }

        void append(long w, int more) {
            for (int i = 0; i < more && size < MOST_LETTERS; i++) {
                codes[size] = codeAt(w, i);
                size++;
            }
        }

        static boolean hasInches(int code) {
            return code == 'c' || code == 't';
        }

        static boolean isWholeDay(int code) {
            return code == 's' || code == 'w';
        }

        int firstWrong() {
            int days = 0;
            boolean awaitsInches = false;
            for (int i = 0; i < size; i++) {
                int code = codes[i];
                if (awaitsInches) {
                    if (code < '1' || code > '9') {
                        return i;
                    }
                    awaitsInches = false;
                } else {
                    if (days == MOST_DAYS || !(hasInches(code) || isWholeDay(code))) {
                        return i;
                    }
                    days++;
                    awaitsInches = hasInches(code);
                }
            }
            return size;
        }

        boolean isDays() {
            return size > 0 && firstWrong() == size && !hasInches(codes[size - 1]);
        }

        /** Of DAYS: a letter that begins none tells the inches of the one before it. */
        boolean beginsDay(int at) {
            return hasInches(codes[at]) || isWholeDay(codes[at]);
        }

        int dayAt(int at) {
            switch (codes[at]) {
                case 'c':
                    return COLD;
                case 't':
                    return THAW;
                case 's':
                    return SNOW;
                default:
                    return WIND;
            }
        }

        int inchesAt(int at) {
            return hasInches(codes[at]) && at + 1 < size ? codes[at + 1] - '0' : 0;
        }

        boolean outlasts(int kind, int depth, int iceNow) {
            int ice = iceNow;
            int cut = depth;
            for (int at = 0; at < size && cut > 0; at++) {
                if (beginsDay(at)) {
                    ice = iceBehind(dayAt(at), inchesAt(at), ice);
                    cut = dayAt(at) == THAW ? Debt.cutBehindThaw(kind, cut, inchesAt(at), ice) : cut;
                }
            }
            return cut > 0;
        }

        int daysUntilBearing(int iceNow) {
            int ice = iceNow;
            int days = 0;
            for (int at = 0; at < size && ice < BEARING_ICE; at++) {
                if (beginsDay(at)) {
                    ice = iceBehind(dayAt(at), inchesAt(at), ice);
                    days++;
                }
            }
            return ice >= BEARING_ICE ? days : NONE;
        }
    }

    /** Ways of fewest steps from one SQUARE, and the most that can be READ on such a way. */
    private static final class Skater {
        final int[] steps = new int[MOST_SQUARES];
        final int[] gain = new int[MOST_SQUARES];
        private final int[] readable = new int[MOST_SQUARES];
        private final int[] queue = new int[MOST_SQUARES];
        private int queued;

        void roam(Town town, int from) {
            for (int i = 0; i < MOST_SQUARES; i++) {
                steps[i] = NONE;
                readable[i] = town.readableIn(i);
            }
            queued = 0;
            if (!town.bearsSkater(from)) {
                return;
            }
            enter(from, 0, readable[from]);
            for (int i = 0; i < queued && i < MOST_SQUARES; i++) {
                leave(town, queue[i]);
            }
        }

        private void leave(Town town, int square) {
            reach(town, square, square - town.wide);
            if (town.wide > 0 && (square + 1) % town.wide != 0) {
                reach(town, square, square + 1);
            }
            reach(town, square, square + town.wide);
            if (town.wide > 0 && square % town.wide != 0) {
                reach(town, square, square - 1);
            }
        }

        /** SQUARES are left in the order of their steps, so the gain of the one that is left stands. */
        private void reach(Town town, int from, int to) {
            if (!town.bearsSkater(to)) {
                return;
            }
            int gained = gain[from] + readable[to];
            if (steps[to] == NONE) {
                enter(to, steps[from] + 1, gained);
            } else if (steps[to] == steps[from] + 1) {
                gain[to] = Math.max(gain[to], gained);
            }
        }

        private void enter(int square, int stepsTo, int gained) {
            steps[square] = stepsTo;
            gain[square] = gained;
            if (queued < MOST_SQUARES) {
                queue[queued] = square;
                queued++;
            }
        }
    }

    /** Which blocks to lay on the SLEDGES. */
    private static final class Loading {
        private static final int NEVER = 1 << 20;

        int bestWorth;
        int bestBits;
        private int debts;
        private final int[] weight = new int[MOST_DEBTS];
        private final int[] worth = new int[MOST_DEBTS];
        /** Of each set of blocks the fewest sledges that bear it (times 256) and the least that lies on the last one. */
        private final int[] packed = new int[1 << MOST_DEBTS];

        void choose(Town town, int sledges, int bears) {
            weigh(town);
            bestWorth = 0;
            bestBits = 0;
            packed[0] = 1 << 8;
            for (int bits = 1; bits < 1 << debts; bits++) {
                packed[bits] = pack(bits, bears);
                if ((packed[bits] >> 8) <= sledges) {
                    keepBetter(bits);
                }
            }
        }

        private void weigh(Town town) {
            debts = Math.min(town.debts, MOST_DEBTS);
            for (int i = 0; i < debts; i++) {
                // What can't be sawn out is heavier than any sledge bears.
                weight[i] = town.debt[i].isThere() ? town.iceUnder(i) : MOST_BORNE + 1;
                worth[i] = town.worthOf(i);
            }
        }

        private int pack(int bits, int bears) {
            int least = NEVER;
            for (int i = 0; i < debts; i++) {
                if (((bits >> i) & 1) != 0) {
                    least = Math.min(least, layOn(packed[bits ^ (1 << i)], weight[i], bears));
                }
            }
            return least;
        }

        private static int layOn(int before, int block, int bears) {
            if (before == NEVER || block > bears) {
                return NEVER;
            }
            if ((before & 255) + block <= bears) {
                return before + block;
            }
            return (((before >> 8) + 1) << 8) + block;
        }

        /** Sets come by rising bits, so a later one is better only by more WORTH or fewer blocks. */
        private void keepBetter(int bits) {
            int together = 0;
            for (int i = 0; i < debts; i++) {
                if (((bits >> i) & 1) != 0) {
                    together += worth[i];
                }
            }
            boolean fewer = Integer.bitCount(bits) < Integer.bitCount(bestBits);
            if (together > bestWorth || (together == bestWorth && fewer)) {
                bestWorth = together;
                bestBits = bits;
            }
        }
    }

    /** Into how many sets PEOPLE can be parted. */
    private static final class Settling {
        private final int[] rests = new int[PEOPLE];
        private final int[] together = new int[1 << PEOPLE];
        private final int[] groups = new int[1 << PEOPLE];

        /**
         * PEOPLE come one by one; each time that the RESTS of those who came are 0 together, a group is whole.
         * Of all orders the best one has the most groups.
         */
        int mostGroups(Town town) {
            for (int person = 0; person < PEOPLE; person++) {
                rests[person] = town.restOf(person);
            }
            for (int bits = 1; bits < groups.length; bits++) {
                addSet(bits);
            }
            return groups[groups.length - 1];
        }

        private void addSet(int bits) {
            int most = 0;
            for (int person = 0; person < PEOPLE; person++) {
                if (((bits >> person) & 1) != 0) {
                    int others = bits ^ (1 << person);
                    together[bits] = together[others] + rests[person];
                    most = Math.max(most, groups[others]);
                }
            }
            groups[bits] = together[bits] == 0 ? most + 1 : most;
        }
    }
}
