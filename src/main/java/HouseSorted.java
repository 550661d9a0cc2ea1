/** A house to be emptied: its things, the laws that send them their ways, and how heirs share them. */
public final class HouseSorted {
    public static final int BAD = -1, STATE = -2, FULL = -3, NONE = -4;

    private static final int MOST_HEIRS = 4, MOST_THINGS = 10, MOST_TO_COMPARE = 8;
    private static final int MOST_WEIGHT = 50, MOST_PRICE = 1000, MOST_AGE = 99, MOST_MARKS = 15, MOST_WORTH = 100;
    private static final int PAPER_MARK = 1, FUR_MARK = 2, GUN_MARK = 4, NAME_MARK = 8;
    private static final int TO_KIN = 0, TO_SALE = 1, TO_GIFT = 2, TO_TIP = 3, TO_PAPER = 4, WAYS = 5;
    private static final int NOBODY = -1;
    private static final int NOT_SETTLED = -100000;

    private static final int TAPE_BYTES = 160, FEED_BYTES = 8;
    private static final int KEEP = 0, SALE = 1, GIFT = 2, VAN = 3, LOOK = 4, FUR = 5, GUN = 6, LAWS = 7;
    private static final int[] USUAL = {10, 200, 1, 100, 20, TO_SALE, TO_TIP};
    private static final int[] LEAST = {0, 0, 0, 1, 0};
    private static final int[] MOST = {99, 1000, 100, 200, 1000};
    /** Every NAME in NAME_WIDTH places, blanks behind it: first the laws by their numbers, then what is a way alone. */
    private static final String NAMES = "keep sale gift van  look fur  gun  kin  tip  ";
    private static final int NAME_WIDTH = 5, NAME_COUNT = 9;
    /** The way that each NAME tells, or -1. */
    private static final int[] WAY_OF_NAME = {-1, TO_SALE, TO_GIFT, -1, -1, -1, -1, TO_KIN, TO_TIP};
    private static final int MOST_FIGURES = 4;

    private static final int TEXT_END = 0, TEXT_NAME = 1, TEXT_NUMBER = 2, TEXT_STOP = 3, TEXT_WRONG = 4;
    private static final int NO_TOKEN = 1, MISPLACED = 2, OUT_OF_BOUNDS = 3, TOLD_ALREADY = 4;

    private static final int SHEETS = 4, LANES = 3, MOST_CELLS = 60, NOTHING = -1;
    private static final int BYTES = 0, SHORTS = 1;
    private static final int FAULTY = -10, NO_WORTH = -20;
    private static final int NULL_FAULT = 1, INDEX_FAULT = 2, CAST_FAULT = 3, SIZE_FAULT = 4;

    private final Tape tape;
    private final LawBook book;
    private final House house;
    private final Sharing shares;
    private final FairestSearch search;
    private final Vans vans;
    private final Sheet[] sheets;

    public HouseSorted() {
        tape = new Tape();
        book = new LawBook(tape);
        house = new House(book);
        shares = new Sharing(house);
        search = new FairestSearch(house, shares);
        vans = new Vans(house, book);
        sheets = new Sheet[SHEETS];
        for (int k = 0; k < SHEETS; k++) {
            sheets[k] = new Sheet();
        }
    }

    public int feed(long v) {
        if (tape.length > TAPE_BYTES - FEED_BYTES) {
            return FULL;
        }
        tape.append(v);
        return tape.length;
    }

    public int end(int n) {
        if (n < 0 || n > tape.length) {
            return BAD;
        }
        int before = tape.length;
        tape.length = n;
        return before;
    }

    public int laws() {
        int answer = book.readTape();
        tape.length = 0;
        return answer;
    }

    public int fault() {
        return book.fault;
    }

    public int law(int k) {
        return isWithin(k, 0, LAWS - 1) ? book.value[k] : BAD;
    }

    // ---- heirs, things

    public int heir() {
        if (house.heirs >= MOST_HEIRS) {
            return FULL;
        }
        house.heirs++;
        return house.heirs - 1;
    }

    public int thing(int weight, int low, int high, int age, int marks) {
        if (!isWithin(weight, 1, MOST_WEIGHT) || !isWithin(low, 0, MOST_PRICE) || !isWithin(high, low, MOST_PRICE)
                || !isWithin(age, 0, MOST_AGE) || !isWithin(marks, 0, MOST_MARKS)) {
            return BAD;
        }
        if (house.things >= MOST_THINGS) {
            return FULL;
        }
        return house.addThing(weight, low, high, age, marks);
    }

    public int worth(int heir, int thing, int v) {
        if (!house.hasHeir(heir) || !house.hasThing(thing) || !isWithin(v, 0, MOST_WORTH)) {
            return BAD;
        }
        int before = house.worth[heir][thing];
        house.worth[heir][thing] = v;
        return before;
    }

    public int gone() {
        if (house.things <= 0) {
            return NONE;
        }
        house.things--;
        return house.things;
    }

    public int look(int thing, int low, int high) {
        if (!house.hasThing(thing) || low > high || low < house.low[thing] || high > house.high[thing]) {
            return BAD;
        }
        house.low[thing] = low;
        house.high[thing] = high;
        return 1;
    }

    public int told(int thing, int what) {
        if (!house.hasThing(thing)) {
            return BAD;
        }
        switch (what) {
            case 0: return house.weight[thing];
            case 1: return house.low[thing];
            case 2: return house.high[thing];
            case 3: return house.age[thing];
            case 4: return house.marks[thing];
            case 5: return house.wayOf(thing);
            default: return BAD;
        }
    }

    public int way(int way, int what) {
        if (!isWithin(way, 0, WAYS - 1)) {
            return BAD;
        }
        switch (what) {
            case 0: return house.countOnWay(way);
            case 1: return house.sumOnWay(way, house.weight);
            case 2: return house.sumOnWay(way, house.low);
            case 3: return house.sumOnWay(way, house.high);
            default: return BAD;
        }
    }

    public int asks(int thing) {
        return house.hasThing(thing) ? house.secondLook(thing) : BAD;
    }

    // ---- sharing

    public int turns(int rule) {
        if (!isRule(rule)) {
            return BAD;
        }
        if (house.heirs == 0) {
            return STATE;
        }
        shares.gather();
        shares.takeTurns(rule);
        return shares.number();
    }

    public int lie(int rule, int heir, int thing, int v) {
        // Without HEIRS there is no such HEIR: BAD comes before STATE.
        if (!isRule(rule) || !house.hasHeir(heir) || !house.hasThing(thing) || !isWithin(v, 0, MOST_WORTH)) {
            return BAD;
        }
        shares.gather();
        shares.takeTurnsWithLie(rule, heir, thing, v);
        return shares.number();
    }

    public int gain(int rule, int heir) {
        if (!isRule(rule) || !house.hasHeir(heir)) {
            return BAD;
        }
        shares.gather();
        return shares.mostByLying(rule, heir);
    }

    public int sum(int sharing, int heir, int other) {
        if (!house.hasHeir(heir) || !house.hasHeir(other) || !shares.readNumber(sharing)) {
            return BAD;
        }
        return shares.sumOf(heir, other);
    }

    public int envies(int sharing, int a, int b) {
        if (!house.hasHeir(a) || !house.hasHeir(b) || a == b || !shares.readNumber(sharing)) {
            return BAD;
        }
        return shares.envyOf(a, b);
    }

    public int envy(int sharing) {
        return shares.readNumber(sharing) ? shares.envyPairs() : BAD;
    }

    public int fairest() {
        if (house.heirs == 0) {
            return STATE;
        }
        shares.gather();
        return shares.size > MOST_TO_COMPARE ? STATE : search.bestNumber();
    }

    public int bid(int thing) {
        if (!house.hasThing(thing)) {
            return BAD;
        }
        if (house.heirs == 0) {
            return STATE;
        }
        return house.wayOf(thing) == TO_KIN ? house.keenest(thing) : NONE;
    }

    public int settled(int heir, int what) {
        if (!house.hasHeir(heir)) {
            return NOT_SETTLED;
        }
        shares.gather();
        shares.giveToKeenest();
        switch (what) {
            case 0: return shares.sumOf(heir, heir);
            case 1: return shares.claimOf(heir);
            case 2: return shares.paymentOf(heir);
            case 3: return shares.paymentOf(heir) - shares.partOfRest();
            default: return NOT_SETTLED;
        }
    }

    // ---- loads

    public int loads(int way) {
        return isWithin(way, 0, WAYS - 1) ? vans.fewest(way) : BAD;
    }

    public int load(int thing) {
        if (!house.hasThing(thing)) {
            return BAD;
        }
        return vans.fewest(house.wayOf(thing)) == NONE ? NONE : vans.loadOf(thing);
    }

    // ---- sheets

    public int sheet(int k, int lane, int n) {
        if (!isWithin(k, 0, SHEETS - 1) || !isLane(lane) || n > MOST_CELLS) {
            return BAD;
        }
        if (n < 0) {
            return FAULTY - SIZE_FAULT;
        }
        sheets[k].renew(lane, n);
        return 1;
    }

    public int lay(int k, int i, int v) {
        if (!isWithin(k, 0, SHEETS - 1)) {
            return BAD;
        }
        Sheet row = sheets[k];
        if (row.lane == NOTHING) {
            return FAULTY - NULL_FAULT;
        }
        if (!row.hasCell(i)) {
            return FAULTY - INDEX_FAULT;
        }
        row.put(i, v);
        return 1;
    }

    public int worths(int heir, int k, int lane, int f) {
        if (!house.hasHeir(heir) || !isWithin(k, 0, SHEETS - 1) || !isLane(lane)) {
            return BAD;
        }
        int refusal = sheets[k].refusal(lane, f, house.things);
        return refusal != 0 ? refusal : house.takeWorths(heir, sheets[k], f);
    }

    public int count(int what) {
        switch (what) {
            case 0: return house.heirs;
            case 1: return house.things;
            case 2: return book.told;
            case 3: return house.countOnWay(TO_KIN);
            default: return BAD;
        }
    }

    private static boolean isWithin(int v, int least, int most) {
        return v >= least && v <= most;
    }

    private static boolean isRule(int rule) {
        return rule == 0 || rule == 1;
    }

    private static boolean isLane(int lane) {
        return isWithin(lane, 0, LANES - 1);
    }

    /** THE TAPE. */
    private static final class Tape {
        final byte[] bytes = new byte[TAPE_BYTES];
        int length;

        void append(long v) {
            for (int shift = 56; shift >= 0 && length < TAPE_BYTES; shift -= 8) {
                bytes[length] = (byte) (v >>> shift);
                length++;
            }
        }

        boolean hasBetween(int place, char first, char last) {
            return place < length && bytes[place] >= first && bytes[place] <= last;
        }
    }

    /** Finds the TOKENS of THE TAPE, one when it is asked for. */
    private static final class TokenReader {
        private final Tape tape;
        private int place;
        /** The first byte of the latest TOKEN; at the end: the length. */
        int start;
        int kind;
        /** Of a NAME its number, of a NUMBER what it is. */
        int value;

        TokenReader(Tape tape) {
            this.tape = tape;
        }

        void rewind() {
            place = 0;
        }

        void advance() {
            place = placeBehind(place, ' ', ' ');
            start = place;
            if (place >= tape.length) {
                kind = TEXT_END;
            } else if (tape.hasBetween(place, 'a', 'z')) {
                readName();
            } else if (tape.hasBetween(place, '0', '9')) {
                readNumber();
            } else if (tape.hasBetween(place, ';', ';')) {
                kind = TEXT_STOP;
                place++;
            } else {
                kind = TEXT_WRONG;
            }
        }

        private int placeBehind(int from, char first, char last) {
            int behind = from;
            while (behind < tape.length && tape.hasBetween(behind, first, last)) {
                behind++;
            }
            return behind;
        }

        private void readName() {
            place = placeBehind(start, 'a', 'z');
            kind = TEXT_WRONG;
            for (int name = 0; name < NAME_COUNT && kind == TEXT_WRONG; name++) {
                if (isName(name)) {
                    kind = TEXT_NAME;
                    value = name;
                }
            }
        }

        private boolean isName(int name) {
            int letters = place - start;
            int first = name * NAME_WIDTH;
            if (letters >= NAME_WIDTH || NAMES.charAt(first + letters) != ' ') {
                return false;
            }
            for (int i = 0; i < letters; i++) {
                if (tape.bytes[start + i] != NAMES.charAt(first + i)) {
                    return false;
                }
            }
            return true;
        }

        private void readNumber() {
            place = placeBehind(start, '0', '9');
            kind = place - start > MOST_FIGURES ? TEXT_WRONG : TEXT_NUMBER;
            value = 0;
            for (int i = start; i < place && kind == TEXT_NUMBER; i++) {
                value = value * 10 + (tape.bytes[i] - '0');
            }
        }
    }

    /** The laws that hold, and how THE TAPE is read for new ones. */
    private static final class LawBook {
        final int[] value = USUAL.clone();
        int told;
        int fault;
        private final TokenReader reader;
        private final int[] draft = new int[LAWS];
        private int draftBits;

        LawBook(Tape tape) {
            reader = new TokenReader(tape);
        }

        int readTape() {
            reader.rewind();
            System.arraycopy(USUAL, 0, draft, 0, LAWS);
            draftBits = 0;
            fault = 0;
            // One pass more than there are laws: it meets the end or a FAULT.
            for (int n = 0; n <= LAWS; n++) {
                reader.advance();
                if (reader.kind == TEXT_END) {
                    break;
                }
                fault = readLaw();
                if (fault != 0) {
                    return FAULTY - reader.start;
                }
            }
            System.arraycopy(draft, 0, value, 0, LAWS);
            told = Integer.bitCount(draftBits);
            return told;
        }

        private int readLaw() {
            if (reader.kind != TEXT_NAME || reader.value >= LAWS) {
                return misfit();
            }
            int law = reader.value;
            if ((draftBits >> law & 1) != 0) {
                return TOLD_ALREADY;
            }
            draftBits |= 1 << law;
            reader.advance();
            int wrong = law < FUR ? readAmount(law) : readWay(law);
            if (wrong != 0) {
                return wrong;
            }
            reader.advance();
            return reader.kind == TEXT_STOP ? 0 : misfit();
        }

        private int readAmount(int law) {
            if (reader.kind != TEXT_NUMBER) {
                return misfit();
            }
            if (!isWithin(reader.value, LEAST[law], MOST[law])) {
                return OUT_OF_BOUNDS;
            }
            draft[law] = reader.value;
            return 0;
        }

        private int readWay(int law) {
            if (reader.kind != TEXT_NAME || WAY_OF_NAME[reader.value] < 0) {
                return misfit();
            }
            draft[law] = WAY_OF_NAME[reader.value];
            return 0;
        }

        private int misfit() {
            return reader.kind == TEXT_WRONG ? NO_TOKEN : MISPLACED;
        }
    }

    /** HEIRS and THINGS. */
    private static final class House {
        private final LawBook book;
        int heirs;
        int things;
        final int[] weight = new int[MOST_THINGS];
        final int[] low = new int[MOST_THINGS];
        final int[] high = new int[MOST_THINGS];
        final int[] age = new int[MOST_THINGS];
        final int[] marks = new int[MOST_THINGS];
        final int[][] worth = new int[MOST_HEIRS][MOST_THINGS];

        House(LawBook book) {
            this.book = book;
        }

        boolean hasHeir(int heir) {
            return heir >= 0 && heir < heirs;
        }

        boolean hasThing(int thing) {
            return thing >= 0 && thing < things;
        }

        int addThing(int itsWeight, int itsLow, int itsHigh, int itsAge, int itsMarks) {
            int thing = things;
            weight[thing] = itsWeight;
            low[thing] = itsLow;
            high[thing] = itsHigh;
            age[thing] = itsAge;
            marks[thing] = itsMarks;
            // A THING that went may have left its WORTHS under this number.
            for (int heir = 0; heir < MOST_HEIRS; heir++) {
                worth[heir][thing] = 0;
            }
            things++;
            return thing;
        }

        int wayOf(int thing) {
            if (hasMark(thing, GUN_MARK)) {
                return book.value[GUN];
            }
            if (hasMark(thing, FUR_MARK)) {
                return book.value[FUR];
            }
            if (isKeptPaper(thing)) {
                return TO_PAPER;
            }
            if (hasMark(thing, NAME_MARK)) {
                return TO_KIN;
            }
            if (low[thing] >= book.value[SALE]) {
                return TO_SALE;
            }
            if (isWanted(thing)) {
                return TO_KIN;
            }
            return low[thing] >= book.value[GIFT] ? TO_GIFT : TO_TIP;
        }

        private boolean hasMark(int thing, int mark) {
            return (marks[thing] & mark) != 0;
        }

        private boolean isKeptPaper(int thing) {
            return hasMark(thing, PAPER_MARK) && age[thing] <= book.value[KEEP];
        }

        private boolean isWanted(int thing) {
            for (int heir = 0; heir < heirs; heir++) {
                if (worth[heir][thing] > 0) {
                    return true;
                }
            }
            return false;
        }

        int countOnWay(int way) {
            int found = 0;
            for (int thing = 0; thing < things; thing++) {
                if (wayOf(thing) == way) {
                    found++;
                }
            }
            return found;
        }

        int sumOnWay(int way, int[] row) {
            int total = 0;
            for (int thing = 0; thing < things; thing++) {
                if (wayOf(thing) == way) {
                    total += row[thing];
                }
            }
            return total;
        }

        int secondLook(int thing) {
            if (hasMark(thing, GUN_MARK | FUR_MARK | NAME_MARK) || isKeptPaper(thing)) {
                return 0;
            }
            int sale = book.value[SALE];
            if (low[thing] >= sale || high[thing] < sale) {
                return 0;
            }
            return Math.max(0, high[thing] - sale - book.value[LOOK]);
        }

        /** The HEIR with the greatest WORTH of a THING. */
        int keenest(int thing) {
            int best = 0;
            for (int heir = 1; heir < heirs; heir++) {
                if (worth[heir][thing] > worth[best][thing]) {
                    best = heir;
                }
            }
            return best;
        }

        /** The SHEET has been looked at: it has a WORTH for each THING. */
        int takeWorths(int heir, Sheet row, int first) {
            int changed = 0;
            for (int thing = 0; thing < things; thing++) {
                int v = row.cells[first + thing];
                if (worth[heir][thing] != v) {
                    worth[heir][thing] = v;
                    changed++;
                }
            }
            return changed;
        }
    }

    /** The THINGS that are SHARED, and who gets each of them. */
    private static final class Sharing {
        private final House house;
        final int[] shared = new int[MOST_THINGS];
        int size;
        private final int[] taker = new int[MOST_THINGS];

        Sharing(House house) {
            this.house = house;
        }

        void gather() {
            size = 0;
            for (int thing = 0; thing < house.things; thing++) {
                if (house.wayOf(thing) == TO_KIN) {
                    shared[size] = thing;
                    size++;
                }
            }
        }

        int number() {
            int answer = 0;
            for (int j = size - 1; j >= 0; j--) {
                answer = answer * house.heirs + taker[j];
            }
            return answer;
        }

        /** Whether there is a SHARING of this number; it stands here then. */
        boolean readNumber(int number) {
            gather();
            if (number < 0) {
                return false;
            }
            int rest = number;
            for (int j = 0; j < size; j++) {
                if (house.heirs <= 0) {
                    return false;
                }
                taker[j] = rest % house.heirs;
                rest = rest / house.heirs;
            }
            return rest == 0;
        }

        void takeTurns(int rule) {
            takeTurnsWithLie(rule, NOBODY, 0, 0);
        }

        void takeTurnsWithLie(int rule, int liar, int about, int lied) {
            for (int j = 0; j < size; j++) {
                taker[j] = NOBODY;
            }
            for (int turn = 0; turn < size; turn++) {
                int heir = heirAtTurn(rule, turn);
                int wish = NOBODY;
                int most = -1;
                for (int j = 0; j < size; j++) {
                    if (taker[j] != NOBODY) {
                        continue;
                    }
                    int worth = heir == liar && shared[j] == about ? lied : house.worth[heir][shared[j]];
                    if (worth > most) {
                        most = worth;
                        wish = j;
                    }
                }
                if (wish != NOBODY) {
                    taker[wish] = heir;
                }
            }
        }

        private int heirAtTurn(int rule, int turn) {
            int heirs = Math.max(1, house.heirs);
            int step = turn % heirs;
            boolean back = rule == 1 && turn / heirs % 2 == 1;
            return back ? heirs - 1 - step : step;
        }

        int mostByLying(int rule, int heir) {
            takeTurns(rule);
            int honest = sumOf(heir, heir);
            int best = honest;
            for (int j = 0; j < size; j++) {
                for (int lied = 0; lied <= MOST_WORTH; lied++) {
                    if (changesOrder(heir, j, lied)) {
                        takeTurnsWithLie(rule, heir, shared[j], lied);
                        best = Math.max(best, sumOf(heir, heir));
                    }
                }
            }
            return best - honest;
        }

        /** Only the place of a lie among the other WORTHS counts: one number for each place is enough. */
        private boolean changesOrder(int heir, int about, int lied) {
            if (lied == 0) {
                return true;
            }
            for (int j = 0; j < size; j++) {
                int worth = house.worth[heir][shared[j]];
                if (j != about && (worth == lied || worth == lied - 1)) {
                    return true;
                }
            }
            return false;
        }

        int sumOf(int heir, int other) {
            int total = 0;
            for (int j = 0; j < size; j++) {
                if (taker[j] == other) {
                    total += house.worth[heir][shared[j]];
                }
            }
            return total;
        }

        private int greatestOf(int heir, int other) {
            int most = 0;
            for (int j = 0; j < size; j++) {
                if (taker[j] == other) {
                    most = Math.max(most, house.worth[heir][shared[j]]);
                }
            }
            return most;
        }

        int envyOf(int a, int b) {
            int over = sumOf(a, b) - sumOf(a, a);
            if (over <= 0) {
                return 0;
            }
            return over <= greatestOf(a, b) ? 1 : 2;
        }

        int envyPairs() {
            int pairs = 0;
            for (int a = 0; a < house.heirs; a++) {
                for (int b = 0; b < house.heirs; b++) {
                    if (a != b && envyOf(a, b) > 0) {
                        pairs++;
                    }
                }
            }
            return pairs;
        }

        void giveToKeenest() {
            for (int j = 0; j < size; j++) {
                taker[j] = house.keenest(shared[j]);
            }
        }

        int claimOf(int heir) {
            int total = 0;
            for (int j = 0; j < size; j++) {
                total += house.worth[heir][shared[j]];
            }
            return total / Math.max(1, house.heirs);
        }

        int paymentOf(int heir) {
            return sumOf(heir, heir) - claimOf(heir);
        }

        int partOfRest() {
            int over = 0;
            for (int heir = 0; heir < house.heirs; heir++) {
                over += paymentOf(heir);
            }
            return over / Math.max(1, house.heirs);
        }
    }

    /**
     * Goes through all SHARINGS by their numbers, from the least on, the last SHARED THING outermost;
     * what can't be better than the best so far is left out.
     */
    private static final class FairestSearch {
        private final House house;
        private final Sharing shares;
        private final int[] sums = new int[MOST_HEIRS];
        /** For each HEIR: its WORTHS of the first j SHARED. */
        private final int[][] within = new int[MOST_HEIRS][MOST_THINGS + 1];
        /** The greatest WORTHS of the first j SHARED. */
        private final int[] richest = new int[MOST_THINGS + 1];
        private int bestLeast;
        private int bestTotal;
        private int best;

        FairestSearch(House house, Sharing shares) {
            this.house = house;
            this.shares = shares;
        }

        int bestNumber() {
            for (int j = 0; j < shares.size; j++) {
                int thing = shares.shared[j];
                richest[j + 1] = richest[j] + house.worth[house.keenest(thing)][thing];
                for (int heir = 0; heir < house.heirs; heir++) {
                    within[heir][j + 1] = within[heir][j] + house.worth[heir][thing];
                }
            }
            bestLeast = -1;
            bestTotal = -1;
            best = 0;
            seek(this, Math.min(shares.size, MOST_TO_COMPARE), 0, 0);
            return best;
        }

        /** The first left SHARED THINGS are still to be given; left keeps the depth low. */
        private static void seek(FairestSearch s, int left, int number, int total) {
            if (!s.mayBeBetter(left, total)) {
                return;
            }
            if (left <= 0) {
                s.bestLeast = s.leastSum();
                s.bestTotal = total;
                s.best = number;
                return;
            }
            int thing = s.shares.shared[left - 1];
            for (int heir = 0; heir < s.house.heirs; heir++) {
                int worth = s.house.worth[heir][thing];
                s.sums[heir] += worth;
                seek(s, left - 1, number * s.house.heirs + heir, total + worth);
                s.sums[heir] -= worth;
            }
        }

        /** What each HEIR still lacks must come from what is left, and each THING ends the lack of one HEIR at most. */
        private boolean mayBeBetter(int left, int total) {
            int needed = total + richest[left] > bestTotal ? bestLeast : bestLeast + 1;
            int lacking = 0;
            int poor = 0;
            for (int heir = 0; heir < house.heirs; heir++) {
                int lack = needed - sums[heir];
                if (lack > within[heir][left]) {
                    return false;
                }
                if (lack > 0) {
                    lacking += lack;
                    poor++;
                }
            }
            return lacking <= richest[left] && poor <= left;
        }

        private int leastSum() {
            int least = sums[0];
            for (int heir = 1; heir < house.heirs; heir++) {
                least = Math.min(least, sums[heir]);
            }
            return least;
        }
    }

    /** LOADS of a WAY. */
    private static final class Vans {
        private final House house;
        private final LawBook book;
        private final int[] cargo = new int[MOST_THINGS];
        private int size;
        private final int[] filled = new int[MOST_THINGS];
        private final int[] place = new int[MOST_THINGS];

        Vans(House house, LawBook book) {
            this.house = house;
            this.book = book;
        }

        /** The fewest LOADS, or NONE; what goes where stands here then. */
        int fewest(int way) {
            gatherCargo(way);
            int room = book.value[VAN];
            int total = 0;
            for (int at = 0; at < size; at++) {
                int weight = house.weight[cargo[at]];
                if (weight > room) {
                    return NONE;
                }
                total += weight;
            }
            for (int limit = 0; limit < size; limit++) {
                if (limit * room >= total && packs(this, 0, 0, limit)) {
                    return limit;
                }
            }
            packs(this, 0, 0, size);
            return size;
        }

        int loadOf(int thing) {
            for (int at = 0; at < size; at++) {
                if (cargo[at] == thing) {
                    return place[at];
                }
            }
            return NONE;
        }

        private void gatherCargo(int way) {
            size = 0;
            for (int thing = 0; thing < house.things; thing++) {
                if (house.wayOf(thing) == way) {
                    cargo[size] = thing;
                    size++;
                }
            }
            for (int k = 0; k < MOST_THINGS; k++) {
                filled[k] = 0;
            }
        }

        /** The least LOAD is tried first, so the first packing that is found is the one that is asked for. */
        private static boolean packs(Vans vans, int at, int used, int limit) {
            if (at >= vans.size) {
                return true;
            }
            int weight = vans.house.weight[vans.cargo[at]];
            for (int k = 0; k <= used && k < limit; k++) {
                if (vans.filled[k] + weight > vans.book.value[VAN] || vans.hasTwin(k)) {
                    continue;
                }
                vans.filled[k] += weight;
                vans.place[at] = k;
                if (packs(vans, at + 1, Math.max(used, k + 1), limit)) {
                    return true;
                }
                vans.filled[k] -= weight;
            }
            return false;
        }

        /** A LOAD before this one is as full: what failed there fails here. */
        private boolean hasTwin(int k) {
            for (int before = 0; before < k; before++) {
                if (filled[before] == filled[k]) {
                    return true;
                }
            }
            return false;
        }
    }

    /** A SHEET: its CELLS are kept as ints, cut to its lane. */
    private static final class Sheet {
        int lane = NOTHING;
        private int size;
        final int[] cells = new int[MOST_CELLS];

        void renew(int newLane, int n) {
            lane = newLane;
            size = n;
            for (int i = 0; i < MOST_CELLS; i++) {
                cells[i] = 0;
            }
        }

        boolean hasCell(int i) {
            return i >= 0 && i < size;
        }

        void put(int i, int v) {
            cells[i] = lane == BYTES ? (byte) v : lane == SHORTS ? (short) v : v;
        }

        /** Why no WORTHS can be read from CELL first on; 0 if they can. */
        int refusal(int asLane, int first, int things) {
            if (lane == NOTHING) {
                return FAULTY - NULL_FAULT;
            }
            if (lane != asLane) {
                return FAULTY - CAST_FAULT;
            }
            for (int thing = 0; thing < things; thing++) {
                if (!hasCell(first + thing)) {
                    return FAULTY - INDEX_FAULT;
                }
                if (!isWithin(cells[first + thing], 0, MOST_WORTH)) {
                    return NO_WORTH - thing;
                }
            }
            return 0;
        }
    }
}
