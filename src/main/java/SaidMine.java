/**
 * The wind that takes what was left: a coast down which a dry wind moves all that is not held.
 * The numbered promises of ../shared/DOC.md say what each call answers and what it refuses.
 */
public final class SaidMine {
    public static final int UNKNOWN = -1, OUTSIDE = -2, STATE = -3, FULL = -4, NONE = -9;

    private static final int MOST_LETTERS = 56;
    private static final int MOST_HOUSES = 4;
    private static final int MOST_THINGS = 6;
    private static final int MOST_BREATHS = 4;
    private static final int MOST_ACTS = 16;
    private static final int MOST_JUDGED = 5;
    private static final int MOST_BLOWS = 9;
    private static final int MOST_COUNTED = 4;
    private static final int MOST_LESSONS = 6;
    private static final int MOST_SEEN = 6;
    private static final int MOST_WINDS = 20;
    private static final int TENTHS = 10;
    private static final int SLOTS = 2;
    private static final int LAWS = 4;
    private static final int[] FACTORIAL = {1, 1, 2, 6, 24};

    private final int[] text = new int[MOST_LETTERS];
    private int letters;
    private final Reader reader = new Reader();
    private Coast told = new Coast();
    private Coast draft = new Coast();

    private final Shore now = new Shore();
    private final Shore trial = new Shore();
    private final Shore[] past = new Shore[MOST_ACTS];
    private int pastEnd;
    private int acts;
    private final Shore[] slots = new Shore[SLOTS];
    private int keptSlots;

    private final Keeping keeping = new Keeping();
    private final int[] lessons = new int[MOST_LESSONS];
    private int lessonCount;
    private final int[] seen = new int[MOST_SEEN];
    private int seenCount;
    private long theSeed;

    public SaidMine() {
        for (int i = 0; i < MOST_ACTS; i++) {
            past[i] = new Shore();
        }
        for (int i = 0; i < SLOTS; i++) {
            slots[i] = new Shore();
        }
    }

    // ---- the coast

    public int write(int letter) {
        if (letter < 0 || letter > 255) {
            return OUTSIDE;
        }
        if (letters >= MOST_LETTERS) {
            return FULL;
        }
        text[letters] = letter;
        letters++;
        return letters;
    }

    public int wipe() {
        int before = letters;
        letters = 0;
        return before;
    }

    public int fault() {
        return reader.read(text, letters, draft);
    }

    public int coast() {
        if (reader.read(text, letters, draft) != NONE) {
            return STATE;
        }
        Coast old = told;
        told = draft;
        draft = old;
        now.begin(told);
        acts = 0;
        keptSlots = 0;
        return 10 * told.houses + told.things;
    }

    public int house(int house, int what) {
        if (!told.hasHouse(house)) {
            return UNKNOWN;
        }
        switch (what) {
            case 0: return told.home[house];
            case 1: return told.breathsLeft(now, house);
            case 2: return now.said[house];
            case 3: return bit(now.owes, house);
            case 4: return told.near(now, house);
            default: return OUTSIDE;
        }
    }

    public int thing(int thing, int what) {
        if (!told.hasThing(thing)) {
            return UNKNOWN;
        }
        switch (what) {
            case 0: return now.place[thing];
            case 1: return told.pace[thing];
            case 2: return told.worth[thing];
            case 3: return told.owner[thing];
            case 4: return told.inside[thing];
            case 5: return told.counted(now, thing);
            case 6: return bit(now.stones, thing);
            case 7: return told.stays(now, thing) ? 1 : 0;
            default: return OUTSIDE;
        }
    }

    // ---- acts

    public int say(int house, int thing) {
        int refusal = told.whyNotSaid(now, house, thing);
        if (refusal != 0) {
            return refusal;
        }
        noteAct();
        now.said[house] |= 1 << thing;
        return told.stays(now, thing) ? 1 : 0;
    }

    public int stone(int thing) {
        if (!told.hasThing(thing)) {
            return UNKNOWN;
        }
        noteAct();
        now.stones ^= 1 << thing;
        return bit(now.stones, thing);
    }

    public int pay(int house) {
        if (!told.hasHouse(house)) {
            return UNKNOWN;
        }
        if (bit(now.owes, house) == 0) {
            return STATE;
        }
        noteAct();
        now.owes &= ~(1 << house);
        return told.staying(now);
    }

    public int blow() {
        noteAct();
        return told.drift(now);
    }

    public int dawn() {
        noteAct();
        int said = now.saidCount();
        now.unsay();
        return said;
    }

    public int undo() {
        if (acts <= 0) {
            return STATE;
        }
        pastEnd = (pastEnd + MOST_ACTS - 1) % MOST_ACTS;
        acts--;
        now.copy(past[pastEnd]);
        return acts;
    }

    public int judge(int n, long row) {
        if (n < 1 || n > MOST_JUDGED || row < 0 || upperFigures(row, n) != 0) {
            return OUTSIDE;
        }
        trial.copy(now);
        for (int at = 0; at < n; at++) {
            int figures = (int) (upperFigures(row, n - 1 - at) % 100);
            if (!passes(trial, figures / 10, figures % 10)) {
                return at;
            }
        }
        return NONE;
    }

    // ---- to keep

    public int toKeep(int things) {
        if (!isSetOfThings(things)) {
            return OUTSIDE;
        }
        return keeping.fewest(told, now, things);
    }

    public int by(int things, int thing) {
        if (!isSetOfThings(things)) {
            return OUTSIDE;
        }
        if (!told.hasThing(thing)) {
            return UNKNOWN;
        }
        return keeping.firstWay(told, now, things, thing);
    }

    public int most() {
        keeping.fillWorth(told, now);
        return told.worthOf(told.staying(now)) + keeping.worthBy(told, now, told.allHouses());
    }

    public int share(int house, boolean upper) {
        if (!told.hasHouse(house)) {
            return UNKNOWN;
        }
        trial.copy(now);
        trial.unsay();
        keeping.fillWorth(told, trial);
        int sum = 0;
        for (int come = 0; come <= told.allHouses(); come++) {
            if (bit(come, house) == 0) {
                int more = keeping.worthBy(told, trial, come | 1 << house) - keeping.worthBy(told, trial, come);
                sum += more * ordersWith(Integer.bitCount(come));
            }
        }
        return fraction(sum, FACTORIAL[told.houses], upper);
    }

    public int rests(int house, int other, int thing) {
        if (!told.hasHouse(house) || !told.hasHouse(other) || !told.hasThing(thing)) {
            return UNKNOWN;
        }
        if (house == other) {
            return OUTSIDE;
        }
        int canSay = 3 & ~(bit(now.said[house], thing) | bit(now.said[other], thing) << 1);
        int ways = 0;
        for (int way = 0; way < 4; way++) {
            if ((way & ~canSay) == 0 && isAtRest(house, other, thing, way, canSay)) {
                ways |= 1 << way;
            }
        }
        return ways;
    }

    public int behind(int thing, int n) {
        if (!told.hasThing(thing)) {
            return UNKNOWN;
        }
        if (!isNumberOfBlows(n)) {
            return OUTSIDE;
        }
        return told.placeBehind(now, thing, n);
    }

    public int quay(int n) {
        if (!isNumberOfBlows(n)) {
            return OUTSIDE;
        }
        return told.worthOf(told.atLastBehind(now, n));
    }

    // ---- lessons

    public int learn(int c, boolean own, boolean held) {
        if (c < 0 || c > MOST_COUNTED || (own && c == 0)) {
            return OUTSIDE;
        }
        if (lessonCount >= MOST_LESSONS) {
            return FULL;
        }
        lessons[lessonCount] = 4 * c + (own ? 2 : 0) + (held ? 1 : 0);
        lessonCount++;
        return lessonCount;
    }

    public int unlearn() {
        int before = lessonCount;
        lessonCount = 0;
        return before;
    }

    public int laws() {
        int left = 0;
        for (int law = 0; law < LAWS; law++) {
            if (agreesWithLessons(law)) {
                left |= 1 << law;
            }
        }
        return left;
    }

    public int next() {
        int left = laws();
        int best = NONE;
        int leastPart = Integer.bitCount(left) + 1;
        for (int c = 0; left != 0 && c <= MOST_COUNTED; c++) {
            for (int own = 0; own <= Math.min(c, 1); own++) {
                int part = greaterPart(left, c, own == 1);
                if (part < leastPart) {
                    leastPart = part;
                    best = 10 * c + own;
                }
            }
        }
        return best;
    }

    // ---- seen, forgotten

    public int see(int thing, boolean there) {
        if (!told.hasThing(thing)) {
            return UNKNOWN;
        }
        if (seenCount >= MOST_SEEN) {
            return FULL;
        }
        seen[seenCount] = 2 * thing + (there ? 1 : 0);
        seenCount++;
        return seenCount;
    }

    public int unsee() {
        int before = seenCount;
        seenCount = 0;
        return before;
    }

    public int heard(int house, int n, int what) {
        if (!told.hasHouse(house)) {
            return UNKNOWN;
        }
        if (!isNumberOfBlows(n) || what < 0 || what > 2) {
            return OUTSIDE;
        }
        trial.copy(now);
        int near = told.near(now, house);
        int sets = 0;
        int inAll = told.allThings();
        int inNone = told.allThings();
        for (int set = 0; set <= told.allThings(); set++) {
            trial.said[house] = set;
            boolean sayable = (set & ~near) == 0 && Integer.bitCount(set) <= told.breaths[house];
            if (sayable && isAsSeen(trial, n)) {
                sets++;
                inAll &= set;
                inNone &= ~set;
            }
        }
        if (what == 0) {
            return sets;
        }
        if (sets == 0) {
            return NONE;
        }
        return what == 1 ? inAll : inNone;
    }

    public int forgotten(int thing, int x, boolean upper) {
        if (!told.hasThing(thing)) {
            return UNKNOWN;
        }
        if (x < 0 || x > TENTHS) {
            return OUTSIDE;
        }
        int top = told.top(thing);
        int counted = told.counted(now, top);
        int sum = 0;
        int whole = 0;
        for (int left = 0; left <= told.allHouses(); left++) {
            if ((left & ~counted) == 0) {
                int chance = power(TENTHS - x, Integer.bitCount(left)) * power(x, Integer.bitCount(counted & ~left));
                whole += chance;
                sum += bit(now.stones, top) == 1 || told.held(top, left) ? chance : 0;
            }
        }
        return fraction(sum, whole, upper);
    }

    public long seed(long v) {
        long before = theSeed;
        theSeed = v;
        return before;
    }

    public int winds(int m) {
        if (m < 1 || m > MOST_WINDS) {
            return OUTSIDE;
        }
        trial.copy(now);
        for (int i = 0; i < m; i++) {
            theSeed = theSeed * 6364136223846793005L + 1442695040888963407L;
            int thing = (int) ((theSeed >>> 33) % 8);
            if (told.hasThing(thing)) {
                trial.stones ^= 1 << thing;
            }
            told.drift(trial);
        }
        return told.worthOf(told.atLastBehind(trial, 0));
    }

    // ---- slots

    public int keep(int slot) {
        if (slot < 0 || slot >= SLOTS) {
            return UNKNOWN;
        }
        slots[slot].copy(now);
        keptSlots |= 1 << slot;
        return now.blows;
    }

    public int again(int slot) {
        if (slot < 0 || slot >= SLOTS) {
            return UNKNOWN;
        }
        if (bit(keptSlots, slot) == 0) {
            return STATE;
        }
        now.copy(slots[slot]);
        acts = 0;
        return now.blows;
    }

    public int count(int what) {
        switch (what) {
            case 0: return letters;
            case 1: return told.law;
            case 2: return told.last;
            case 3: return told.houses;
            case 4: return told.things;
            case 5: return now.blows;
            case 6: return told.staying(now);
            case 7: return told.atLastBehind(now, 0);
            case 8: return now.saidCount();
            case 9: return now.owes;
            case 10: return acts;
            case 11: return lessonCount;
            case 12: return seenCount;
            default: return OUTSIDE;
        }
    }

    // ---- what the calls share

    /** The last act is undone by going back to how all was before it. */
    private void noteAct() {
        past[pastEnd].copy(now);
        pastEnd = (pastEnd + 1) % MOST_ACTS;
        acts = Math.min(acts + 1, MOST_ACTS);
    }

    /** The row without its last pairs of figures. */
    private static long upperFigures(long row, int pairsOff) {
        long upper = row;
        for (int i = 0; i < pairsOff; i++) {
            upper /= 100;
        }
        return upper;
    }

    /** Does what the two figures tell; false if it can not be, or brings a thing to the quay. */
    private boolean passes(Shore shore, int house, int thing) {
        if (house == 9 && thing == 0) {
            int there = told.atLastBehind(shore, 0);
            told.drift(shore);
            return (told.atLastBehind(shore, 0) & ~there) == 0;
        }
        if (told.whyNotSaid(shore, house, thing) != 0) {
            return false;
        }
        shore.said[house] |= 1 << thing;
        return true;
    }

    private boolean isSetOfThings(int things) {
        return (things & ~told.allThings()) == 0;
    }

    private static boolean isNumberOfBlows(int n) {
        return n >= 0 && n <= MOST_BLOWS;
    }

    /** In how many orders just these so many houses come ahead of a given one. */
    private int ordersWith(int ahead) {
        int after = told.houses - 1 - ahead;
        return ahead < 0 || after < 0 ? 0 : FACTORIAL[ahead] * FACTORIAL[after];
    }

    private boolean isAtRest(int house, int other, int thing, int way, int canSay) {
        int stay = worthKept(house, other, thing, way);
        for (int who = 1; who <= 2; who++) {
            if ((canSay & who) != 0) {
                int turned = way ^ who;
                int gain = worthKept(house, other, thing, turned) - stay;
                gain += (way & who) != 0 ? 1 : -1;
                if (gain > 0) {
                    return false;
                }
            }
        }
        return true;
    }

    private int worthKept(int house, int other, int thing, int way) {
        trial.copy(now);
        trial.said[house] |= bit(way, 0) << thing;
        trial.said[other] |= bit(way, 1) << thing;
        return told.stays(trial, thing) ? told.worth[thing] : 0;
    }

    private boolean agreesWithLessons(int law) {
        for (int i = 0; i < lessonCount; i++) {
            int lesson = lessons[i];
            if (holds(law, lesson / 4, bit(lesson, 1) == 1) != (bit(lesson, 0) == 1)) {
                return false;
            }
        }
        return true;
    }

    private static int greaterPart(int lawsLeft, int c, boolean own) {
        int held = 0;
        for (int law = 0; law < LAWS; law++) {
            if (bit(lawsLeft, law) == 1 && holds(law, c, own)) {
                held++;
            }
        }
        return Math.max(held, Integer.bitCount(lawsLeft) - held);
    }

    private boolean isAsSeen(Shore shore, int n) {
        int there = told.atLastBehind(shore, n);
        for (int i = 0; i < seenCount; i++) {
            int thing = seen[i] / 2;
            if (told.hasThing(thing) && bit(there, thing) != seen[i] % 2) {
                return false;
            }
        }
        return true;
    }

    private static boolean holds(int law, int c, boolean own) {
        switch (law) {
            case 0: return c >= 1;
            case 1: return c == 1;
            case 2: return own;
            default: return c >= 2;
        }
    }

    private static int bit(int bits, int at) {
        return bits >> at & 1;
    }

    private static int power(int base, int times) {
        int power = 1;
        for (int i = 0; i < times; i++) {
            power *= base;
        }
        return power;
    }

    private static int fraction(int above, int below, boolean upper) {
        int divisor = above;
        int rest = below;
        for (int step = 0; step < 64 && rest != 0; step++) {
            int left = divisor % rest;
            divisor = rest;
            rest = left;
        }
        int part = upper ? above : below;
        return divisor == 0 ? part : part / divisor;
    }

    /** What changes on a coast. */
    private static final class Shore {
        final int[] place = new int[MOST_THINGS];
        final int[] said = new int[MOST_HOUSES];
        int stones;
        int owes;
        int blows;

        void begin(Coast coast) {
            System.arraycopy(coast.start, 0, place, 0, MOST_THINGS);
            unsay();
            stones = 0;
            owes = coast.debts;
            blows = 0;
        }

        void copy(Shore other) {
            System.arraycopy(other.place, 0, place, 0, MOST_THINGS);
            System.arraycopy(other.said, 0, said, 0, MOST_HOUSES);
            stones = other.stones;
            owes = other.owes;
            blows = other.blows;
        }

        void unsay() {
            for (int house = 0; house < MOST_HOUSES; house++) {
                said[house] = 0;
            }
        }

        int saidCount() {
            int sum = 0;
            for (int house = 0; house < MOST_HOUSES; house++) {
                sum += Integer.bitCount(said[house]);
            }
            return sum;
        }
    }

    /** What a text tells of a coast, and what follows from it for a shore. */
    private static final class Coast {
        final int[] home = new int[MOST_HOUSES];
        final int[] breaths = new int[MOST_HOUSES];
        final int[] start = new int[MOST_THINGS];
        final int[] pace = new int[MOST_THINGS];
        final int[] worth = new int[MOST_THINGS];
        final int[] owner = new int[MOST_THINGS];
        final int[] inside = new int[MOST_THINGS];
        int houses;
        int things;
        int law;
        int last = 1;
        int debts;

        /** The law and the last place need not be cleared: no text is without them. */
        void clear() {
            houses = 0;
            things = 0;
            debts = 0;
        }

        boolean hasHouse(int house) {
            return house >= 0 && house < houses;
        }

        boolean hasThing(int thing) {
            return thing >= 0 && thing < things;
        }

        int allHouses() {
            return (1 << houses) - 1;
        }

        int allThings() {
            return (1 << things) - 1;
        }

        /** The outermost thing in which a thing lies; itself, if it lies in nothing. */
        int top(int thing) {
            int top = thing;
            for (int step = 0; step < MOST_THINGS && hasThing(inside[top]); step++) {
                top = inside[top];
            }
            return top;
        }

        int counted(Shore shore, int thing) {
            int counted = 0;
            for (int house = 0; house < houses; house++) {
                counted |= bit(shore.said[house], thing) << house;
            }
            return counted & ~shore.owes;
        }

        boolean held(int thing, int counted) {
            boolean own = hasHouse(owner[thing]) && bit(counted, owner[thing]) == 1;
            return holds(law, Integer.bitCount(counted), own);
        }

        boolean stays(Shore shore, int thing) {
            int top = top(thing);
            return bit(shore.stones, top) == 1 || held(top, counted(shore, top));
        }

        int staying(Shore shore) {
            int staying = 0;
            for (int thing = 0; thing < things; thing++) {
                staying |= stays(shore, thing) ? 1 << thing : 0;
            }
            return staying;
        }

        boolean isNear(Shore shore, int house, int thing) {
            return Math.abs(shore.place[thing] - home[house]) <= 1;
        }

        int near(Shore shore, int house) {
            int near = 0;
            for (int thing = 0; thing < things; thing++) {
                near |= isNear(shore, house, thing) ? 1 << thing : 0;
            }
            return near;
        }

        int breathsLeft(Shore shore, int house) {
            return Math.max(breaths[house] - Integer.bitCount(shore.said[house]), 0);
        }

        /** Why a house can not say mine to a thing; 0, if it can. */
        int whyNotSaid(Shore shore, int house, int thing) {
            if (!hasHouse(house) || !hasThing(thing)) {
                return UNKNOWN;
            }
            if (!isNear(shore, house, thing)) {
                return OUTSIDE;
            }
            if (bit(shore.said[house], thing) == 1 || breathsLeft(shore, house) == 0) {
                return STATE;
            }
            return 0;
        }

        /** As no act comes between, what stays now stays through all n blows. */
        int placeBehind(Shore shore, int thing, int n) {
            int place = shore.place[thing];
            return stays(shore, thing) ? place : Math.min(place + n * pace[top(thing)], last);
        }

        int atLastBehind(Shore shore, int n) {
            int there = 0;
            for (int thing = 0; thing < things; thing++) {
                there |= placeBehind(shore, thing, n) == last ? 1 << thing : 0;
            }
            return there;
        }

        int drift(Shore shore) {
            int moved = 0;
            for (int thing = 0; thing < things; thing++) {
                int place = placeBehind(shore, thing, 1);
                moved |= place != shore.place[thing] ? 1 << thing : 0;
                shore.place[thing] = place;
            }
            shore.blows++;
            return moved;
        }

        int worthOf(int set) {
            int sum = 0;
            for (int thing = 0; thing < things; thing++) {
                sum += bit(set, thing) * worth[thing];
            }
            return sum;
        }

        boolean mayLieIn(int thing, int other) {
            if (!hasThing(thing) || !hasThing(other) || start[thing] != start[other] || inside[thing] != NONE) {
                return false;
            }
            int outer = other;
            for (int step = 0; step < MOST_THINGS && hasThing(outer); step++) {
                if (outer == thing) {
                    return false;
                }
                outer = inside[outer];
            }
            return true;
        }

        boolean mayLie(int thing) {
            for (int other = 0; other < things; other++) {
                if (mayLieIn(thing, other)) {
                    return true;
                }
            }
            return false;
        }

        boolean anyMayLie() {
            for (int thing = 0; thing < things; thing++) {
                for (int other = 0; other < things; other++) {
                    if (mayLieIn(thing, other)) {
                        return true;
                    }
                }
            }
            return false;
        }
    }

    /** Reads a text into a coast, letter by letter. */
    private static final class Reader {
        private static final int START = 0, BETWEEN = 1;

        private Coast coast;
        private int part;
        private int step;
        private int lying;

        /** The fault, or NONE; only without a fault the coast is whole. */
        int read(int[] text, int letters, Coast into) {
            coast = into;
            coast.clear();
            part = START;
            int end = Math.min(letters, text.length);
            for (int at = 0; at < end; at++) {
                if (!takes(text[at])) {
                    return at;
                }
            }
            return part == BETWEEN ? NONE : end;
        }

        private boolean takes(int letter) {
            int figure = letter >= '0' && letter <= '9' ? letter - '0' : -1;
            step++;
            switch (part) {
                case START: return opens(letter, letter == 'W');
                case BETWEEN: return opens(letter, mayOpen(letter));
                case 'W': return takesOfWind(figure);
                case 'H': return takesOfHouse(figure);
                case 'T': return letter == '-' ? takesNobody() : takesOfThing(figure);
                case 'I': return takesOfLying(figure);
                default: return takesOfDebt(figure);
            }
        }

        private boolean opens(int letter, boolean may) {
            part = letter;
            step = 0;
            return may;
        }

        private boolean closes() {
            part = BETWEEN;
            return true;
        }

        private boolean mayOpen(int letter) {
            switch (letter) {
                case 'H': return coast.houses < MOST_HOUSES;
                case 'T': return coast.things < MOST_THINGS;
                case 'I': return coast.anyMayLie();
                case 'D': return coast.debts != coast.allHouses();
                default: return false;
            }
        }

        private boolean takesOfWind(int figure) {
            if (step == 1) {
                coast.law = figure;
                return figure >= 0 && figure < LAWS;
            }
            coast.last = figure;
            return figure >= 1 && figure <= 5 && closes();
        }

        private boolean takesOfHouse(int figure) {
            int house = coast.houses;
            if (step == 1) {
                coast.home[house] = figure;
                return figure >= 0 && figure <= coast.last;
            }
            coast.breaths[house] = figure;
            coast.houses = house + 1;
            return figure >= 0 && figure <= MOST_BREATHS && closes();
        }

        private boolean takesOfThing(int figure) {
            int thing = coast.things;
            switch (step) {
                case 1:
                    coast.start[thing] = figure;
                    return figure >= 0 && figure <= coast.last;
                case 2:
                    coast.pace[thing] = figure;
                    return figure >= 1 && figure <= 3;
                case 3:
                    coast.worth[thing] = figure;
                    return figure >= 0;
                default:
                    return coast.hasHouse(figure) && ownedBy(figure);
            }
        }

        private boolean takesNobody() {
            return step == 4 && ownedBy(NONE);
        }

        private boolean ownedBy(int owner) {
            coast.owner[coast.things] = owner;
            coast.inside[coast.things] = NONE;
            coast.things++;
            return closes();
        }

        private boolean takesOfLying(int figure) {
            if (step == 1) {
                lying = figure;
                return coast.mayLie(figure);
            }
            if (!coast.mayLieIn(lying, figure)) {
                return false;
            }
            coast.inside[lying] = figure;
            return closes();
        }

        private boolean takesOfDebt(int figure) {
            if (!coast.hasHouse(figure) || bit(coast.debts, figure) == 1) {
                return false;
            }
            coast.debts |= 1 << figure;
            return closes();
        }
    }

    /**
     * What houses can keep by what they say more. A purse tells the breaths of all houses as one number
     * (by fives, house 0 the ones), so that one table answers for every purse at once.
     */
    private static final class Keeping {
        private static final int PURSES = 625;
        private static final int[] PRICE =
            {0, 1, 5, 6, 25, 26, 30, 31, 125, 126, 130, 131, 150, 151, 155, 156};

        /** Which houses have a breath in a purse, as bits. */
        private final int[] breathing = new int[PURSES];
        private final int[] table = new int[PURSES];
        private final int[] ways = new int[PRICE.length];
        private int wayCount;

        Keeping() {
            for (int purse = 0; purse < PURSES; purse++) {
                int left = purse;
                for (int house = 0; house < MOST_HOUSES; house++) {
                    breathing[purse] |= left % 5 != 0 ? 1 << house : 0;
                    left /= 5;
                }
            }
        }

        int fewest(Coast coast, Shore shore, int things) {
            int wanted = wantedTops(coast, shore, things);
            if (!canKeep(coast, shore, wanted)) {
                return NONE;
            }
            int sum = 0;
            for (int thing = 0; thing < coast.things; thing++) {
                sum += bit(wanted, thing) * lacking(coast, coast.counted(shore, thing));
            }
            return sum;
        }

        int firstWay(Coast coast, Shore shore, int things, int asked) {
            int wanted = wantedTops(coast, shore, things);
            if (!canKeep(coast, shore, wanted)) {
                return NONE;
            }
            int purse = purseOf(coast, shore, coast.allHouses());
            for (int thing = 0; thing < asked; thing++) {
                purse -= PRICE[leastWay(coast, shore, wanted, thing, purse)];
            }
            return leastWay(coast, shore, wanted, asked, purse);
        }

        /** Fills in, for each purse, the most worth kept by it beside what stays already. */
        void fillWorth(Coast coast, Shore shore) {
            int full = purseOf(coast, shore, coast.allHouses());
            for (int purse = 0; purse <= full; purse++) {
                table[purse] = 0;
            }
            int wanted = wantedTops(coast, shore, coast.allThings());
            for (int thing = 0; thing < coast.things; thing++) {
                if (bit(wanted, thing) == 1) {
                    findWays(coast, shore, thing);
                    addWorth(worthWithin(coast, thing), full);
                }
            }
        }

        int worthBy(Coast coast, Shore shore, int houses) {
            return table[purseOf(coast, shore, houses)];
        }

        /** From the fullest purse down: a lighter one must not have this thing yet. */
        private void addWorth(int worth, int full) {
            for (int purse = full; purse > 0; purse--) {
                int best = table[purse];
                for (int i = 0; i < wayCount; i++) {
                    if (affords(purse, ways[i])) {
                        best = Math.max(best, table[purse - PRICE[ways[i]]] + worth);
                    }
                }
                table[purse] = best;
            }
        }

        /**
         * Bit t of a purse in the table: the wanted things from t on can be kept by it.
         * True, if all can by what the houses have.
         */
        private boolean canKeep(Coast coast, Shore shore, int wanted) {
            int full = purseOf(coast, shore, coast.allHouses());
            for (int purse = 0; purse <= full; purse++) {
                table[purse] = 1 << coast.things;
            }
            for (int thing = coast.things - 1; thing >= 0; thing--) {
                findWaysIfWanted(coast, shore, wanted, thing);
                for (int purse = 0; purse <= full; purse++) {
                    table[purse] |= firstFitting(thing, purse) != NONE ? 1 << thing : 0;
                }
            }
            return bit(table[full], 0) == 1;
        }

        private int leastWay(Coast coast, Shore shore, int wanted, int thing, int purse) {
            findWaysIfWanted(coast, shore, wanted, thing);
            return Math.max(firstFitting(thing, purse), 0);
        }

        /** The first of the ways that leaves enough for the things behind this one. */
        private int firstFitting(int thing, int purse) {
            for (int i = 0; i < wayCount; i++) {
                if (affords(purse, ways[i]) && bit(table[purse - PRICE[ways[i]]], thing + 1) == 1) {
                    return ways[i];
                }
            }
            return NONE;
        }

        private boolean affords(int purse, int houses) {
            return (houses & ~breathing[purse]) == 0 && purse >= PRICE[houses];
        }

        private void findWaysIfWanted(Coast coast, Shore shore, int wanted, int thing) {
            if (bit(wanted, thing) == 1) {
                findWays(coast, shore, thing);
            } else {
                ways[0] = 0;
                wayCount = 1;
            }
        }

        /** The sets of houses, the least first, that hold a thing by the fewest that they say more. */
        private void findWays(Coast coast, Shore shore, int thing) {
            int counted = coast.counted(shore, thing);
            int free = freeFor(coast, shore, thing);
            int lacking = lacking(coast, counted);
            wayCount = 0;
            for (int houses = 0; houses <= coast.allHouses(); houses++) {
                boolean fits = (houses & ~free) == 0 && Integer.bitCount(houses) == lacking;
                if (fits && coast.held(thing, counted | houses)) {
                    ways[wayCount] = houses;
                    wayCount++;
                }
            }
        }

        /** How many must say more to a thing that does not stay, whoever can. */
        private int lacking(Coast coast, int counted) {
            return coast.law == 3 ? 2 - Integer.bitCount(counted) : 1;
        }

        private int freeFor(Coast coast, Shore shore, int thing) {
            int free = 0;
            for (int house = 0; house < coast.houses; house++) {
                boolean may = coast.isNear(shore, house, thing) && bit(shore.said[house], thing) == 0;
                free |= may ? 1 << house : 0;
            }
            return free & ~shore.owes;
        }

        /** The things in nothing that must be held so that all of a set stay. */
        private int wantedTops(Coast coast, Shore shore, int things) {
            int wanted = 0;
            for (int thing = 0; thing < coast.things; thing++) {
                if (bit(things, thing) == 1 && !coast.stays(shore, thing)) {
                    wanted |= 1 << coast.top(thing);
                }
            }
            return wanted;
        }

        private int worthWithin(Coast coast, int top) {
            int sum = 0;
            for (int thing = 0; thing < coast.things; thing++) {
                sum += coast.top(thing) == top ? coast.worth[thing] : 0;
            }
            return sum;
        }

        private int purseOf(Coast coast, Shore shore, int houses) {
            int purse = 0;
            for (int house = 0; house < coast.houses; house++) {
                purse += bit(houses, house) * coast.breathsLeft(shore, house) * PRICE[1 << house];
            }
            return Math.min(purse, PURSES - 1);
        }
    }
}
