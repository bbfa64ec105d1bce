/**
 * A town in which nobody may have the most. The promises of ../shared/DOC.md say what each call
 * answers; the words in capitals below are the document's.
 */
public final class SixStroke {
    public static final int NONE = -1;

    private static final int NOTHING = -2000000000;

    private static final int NO_SUCH = -2;
    private static final int TOO_MANY = -3;
    private static final int BELOW_ZERO = -3;
    private static final int FAULTY = -4;
    private static final int TOO_LITTLE = -5;
    private static final int HAS_NOTHING = -6;
    private static final int BEYOND = -7;
    private static final int UNLIKE = -8;

    private static final int FED_BYTES = 20;
    private static final int MOST_BYTES = 1600;
    private static final int MOST_PEOPLE = 8;
    private static final int MOST_SIGHTS = 12;
    private static final int MOST_LOANS = 6;
    private static final int MOST_DAYS = 30;
    private static final int MOST_PLANNED = 3;
    private static final int MOST_NUMBERS = 60;
    private static final int MOST_THINGS = 30;
    private static final int MOST_SEED = 2000000000;
    private static final int SLOTS = 4;
    private static final int WIDTHS = 4;
    private static final int IMAGES = 3;
    private static final int ACT_NUMBERS = 5;
    private static final int EVERYBODY = 255;

    private static final int LEAST_TIES = 2;
    private static final int MOST_TIES = 4;

    private static final int TO_WELL = 0;
    private static final int SHARED = 1;
    private static final int BURNT = 2;

    private static final int EATS = 0;
    private static final int MATCHES = 1;
    private static final int LEAGUES = 2;
    private static final int HIDES = 3;
    private static final int WORKS = 4;
    private static final int DOES_BEST = 5;
    private static final int WAYS = 6;
    private static final int UNTOLD_FRIEND = 0;
    private static final int UNTOLD_HIDING = 3;

    /** One of the PEOPLE. */
    private static final class Person {
        int has;
        int hidden;
        int way;
        /** The P of league or the N of hide. */
        int told;
        int good;
        int brings;
        int tires;
        int worth;
        int eats;
        int dulls;

        void copyFrom(Person other) {
            has = other.has;
            hidden = other.hidden;
            way = other.way;
            told = other.told;
            good = other.good;
            brings = other.brings;
            tires = other.tires;
            worth = other.worth;
            eats = other.eats;
            dulls = other.dulls;
        }

        int shown() {
            return has - hidden;
        }

        void setHas(int n, int steps) {
            int kept = n > steps ? steps : n;
            has = kept < 0 ? 0 : kept;
            hidden = hidden > has ? has : hidden;
        }

        /** JOY of eating so much, less tires if he works. */
        int pleasure(int work, int eaten) {
            int sum = work == 0 ? 0 : -tires;
            int bite = eats;
            for (int i = 0; i < eaten && bite > 0; i++) {
                sum += bite;
                bite -= dulls;
            }
            return sum;
        }

        /** The P or N that goes with a WAY, should he turn to it. */
        int toldFor(int newWay) {
            if (newWay == way) {
                return told;
            }
            return newWay == HIDES ? UNTOLD_HIDING : UNTOLD_FRIEND;
        }
    }

    /** What happens at a STROKE. */
    private static final class Law {
        int over;
        int ties;
        int goes;
        boolean least;
        int found;

        void clear() {
            over = 0;
            ties = LEAST_TIES;
            goes = TO_WELL;
            least = false;
            found = 0;
        }

        void copyFrom(Law other) {
            over = other.over;
            ties = other.ties;
            goes = other.goes;
            least = other.least;
            found = other.found;
        }
    }

    /** LOANS in the order in which they were made. */
    private static final class Loans {
        int many;
        final int[] lender = new int[MOST_LOANS];
        final int[] borrower = new int[MOST_LOANS];
        final int[] amount = new int[MOST_LOANS];

        void copyFrom(Loans other) {
            many = other.many;
            System.arraycopy(other.lender, 0, lender, 0, MOST_LOANS);
            System.arraycopy(other.borrower, 0, borrower, 0, MOST_LOANS);
            System.arraycopy(other.amount, 0, amount, 0, MOST_LOANS);
        }
    }

    /** All that an IMAGE keeps. */
    private static final class Town {
        int steps;
        int people;
        int lines;
        int well;
        int days;
        long seed;
        final Law law = new Law();
        final Loans loans = new Loans();
        final Person[] persons = new Person[MOST_PEOPLE];
        final int[] within = new int[MOST_PEOPLE * MOST_PEOPLE];

        Town() {
            for (int p = 0; p < MOST_PEOPLE; p++) {
                persons[p] = new Person();
            }
            clear();
        }

        void clear() {
            steps = 0;
            people = 0;
            lines = 0;
            well = 0;
            days = 0;
            seed = 0;
            law.clear();
            loans.many = 0;
            for (int i = 0; i < within.length; i++) {
                within[i] = 1;
            }
        }

        void copyFrom(Town other) {
            steps = other.steps;
            people = other.people;
            lines = other.lines;
            well = other.well;
            days = other.days;
            seed = other.seed;
            law.copyFrom(other.law);
            loans.copyFrom(other.loans);
            for (int p = 0; p < MOST_PEOPLE; p++) {
                persons[p].copyFrom(other.persons[p]);
            }
            System.arraycopy(other.within, 0, within, 0, within.length);
        }

        void addPerson() {
            Person one = persons[people];
            one.hidden = 0;
            one.good = 0;
            one.told = 0;
            people++;
        }

        void change(int p, int by) {
            persons[p].setHas(persons[p].has + by, steps);
        }

        /** What a person HAS once he has worked or not. */
        int hasAfter(int p, int work) {
            Person one = persons[p];
            return work == 0 ? one.has : Math.min(steps, one.has + one.brings);
        }

        void perform(int p, int work, int eaten, int given, int to) {
            persons[p].setHas(hasAfter(p, work), steps);
            change(p, -eaten);
            if (given > 0) {
                hand(p, to, given);
            }
        }

        void hand(int from, int to, int n) {
            persons[from].setHas(persons[from].has - n, steps);
            persons[to].setHas(persons[to].has + n, steps);
        }

        int seenBy(int p, int q) {
            int shown = persons[q].shown();
            int step = within[p * MOST_PEOPLE + q];
            return step > 1 ? shown - shown % step : shown;
        }

        int topFor(int p) {
            int top = 0;
            for (int q = 0; q < people; q++) {
                if (q != p) {
                    top = Math.max(top, seenBy(p, q));
                }
            }
            return top;
        }

        int spreadOut() {
            int sum = 0;
            for (int p = 0; p < people; p++) {
                for (int q = 0; q < p; q++) {
                    sum += Math.abs(persons[p].has - persons[q].has);
                }
            }
            return sum;
        }

        int goodOfAll() {
            int sum = 0;
            for (int p = 0; p < people; p++) {
                sum += persons[p].good;
            }
            return sum;
        }

        /** A STROKE; the scene tells afterwards who LOST what. */
        void strikeOn(Scene scene) {
            scene.load(this);
            scene.strike(law);
            for (int p = 0; p < people; p++) {
                persons[p].setHas(scene.has[p], steps);
            }
            well = scene.well;
            findHidden();
            settleLoans();
        }

        private void findHidden() {
            for (int p = 0; p < people; p++) {
                Person one = persons[p];
                if (one.hidden > 0 && law.found > 0 && draw() < law.found) {
                    well += one.hidden;
                    change(p, -one.hidden);
                    one.hidden = 0;
                }
            }
        }

        private int draw() {
            seed = (1103515245L * seed + 12345L) % 2147483648L;
            return (int) (seed / 65536L % 100L);
        }

        private void settleLoans() {
            for (int i = 0; i < loans.many; i++) {
                int borrower = loans.borrower[i];
                int n = Math.min(loans.amount[i], persons[borrower].has);
                hand(borrower, loans.lender[i], n);
            }
            loans.many = 0;
        }
    }

    /** People as a STROKE finds them: real ones, and those that somebody thinks of. */
    private static final class Scene {
        int people;
        int steps;
        int well;
        final int[] has = new int[MOST_PEOPLE];
        final int[] hidden = new int[MOST_PEOPLE];
        int most;
        int next;
        int topBits;
        int topMany;
        /** What each of those with the MOST LOSES. */
        int each;
        int lost;

        void load(Town town) {
            people = town.people;
            steps = town.steps;
            well = town.well;
            for (int p = 0; p < people; p++) {
                has[p] = town.persons[p].has;
                hidden[p] = town.persons[p].hidden;
            }
        }

        void spend(int p, int n) {
            has[p] = Math.max(0, has[p] - n);
            hidden[p] = Math.min(hidden[p], has[p]);
        }

        void hand(int from, int to, int n) {
            spend(from, n);
            has[to] = Math.min(steps, has[to] + n);
        }

        int lossOf(int p) {
            return (topBits >> p & 1) == 0 ? 0 : each;
        }

        void look(Law law) {
            most = -1;
            next = 0;
            for (int p = 0; p < people; p++) {
                int shown = has[p] - hidden[p];
                if (shown > most) {
                    next = most < 0 ? 0 : most;
                    most = shown;
                    topBits = 1 << p;
                    topMany = 1;
                } else if (shown == most) {
                    topBits |= 1 << p;
                    topMany++;
                } else if (shown > next) {
                    next = shown;
                }
            }
            int above = most - next - law.over;
            each = topMany < law.ties && above > 0 ? above : 0;
            lost = each * topMany;
        }

        void strike(Law law) {
            look(law);
            if (lost > 0) {
                takeLost(law.goes);
            }
            if (law.least) {
                raiseLeast();
            }
        }

        private void takeLost(int goes) {
            int others = people - topMany;
            int share = goes == SHARED && others > 0 ? lost / others : 0;
            for (int p = 0; p < people; p++) {
                int more = (topBits >> p & 1) == 0 ? share : -each;
                has[p] = more > steps - has[p] ? steps : has[p] + more;
            }
            if (goes != BURNT) {
                well += lost - share * others;
            }
        }

        private void raiseLeast() {
            int beyond = steps + 1;
            int lowest = beyond;
            int above = beyond;
            int who = 0;
            int many = 0;
            for (int p = 0; p < people; p++) {
                int shown = has[p] - hidden[p];
                if (shown < lowest) {
                    above = lowest;
                    lowest = shown;
                    who = p;
                    many = 1;
                } else if (shown == lowest) {
                    many++;
                } else if (shown < above) {
                    above = shown;
                }
            }
            if (many == 1 && above != beyond) {
                int raise = well < above - lowest ? well : above - lowest;
                well -= raise;
                has[who] = raise > steps - has[who] ? steps : has[who] + raise;
            }
        }
    }

    /** One person's thought: VALUE by what he SEES, and the best ACT found so far. */
    private static final class Mind {
        private final Scene scene = new Scene();
        private final int[] sees = new int[MOST_PEOPLE];
        private int self;
        private boolean struck;
        int value;
        int work;
        int eaten;
        int given;
        int to;

        /** Those whose bits are in clear are seen just as they are. */
        void see(Town town, int p, int clear, boolean withStroke) {
            self = p;
            struck = withStroke;
            value = NOTHING;
            for (int q = 0; q < town.people; q++) {
                boolean exactly = (clear >> q & 1) != 0;
                sees[q] = exactly ? town.persons[q].shown() : town.seenBy(p, q);
            }
        }

        /** What he HAS behind a STROKE that finds him with so much, so much of it HIDDEN. */
        int behind(Town town, int left, int hidden, int gift, int other) {
            if (!struck) {
                return left;
            }
            scene.people = town.people;
            scene.steps = town.steps;
            scene.well = town.well;
            for (int q = 0; q < town.people; q++) {
                scene.has[q] = sees[q];
                scene.hidden[q] = 0;
            }
            scene.has[self] = left;
            scene.hidden[self] = Math.min(hidden, left);
            if (gift > 0) {
                scene.has[other] = Math.min(town.steps, sees[other] + gift);
            }
            scene.strike(town.law);
            return scene.has[self];
        }

        int worthOf(Town town, int doesWork, int eats, int gives, int other) {
            Person me = town.persons[self];
            int left = town.hasAfter(self, doesWork) - eats - gives;
            int held = behind(town, left, me.hidden, gives, other);
            return me.pleasure(doesWork, eats) + me.worth * held;
        }

        /** Worth of doing nothing, if he had so much and hid so much of it. */
        int worthOfHolding(Town town, int all, int hidden) {
            return town.persons[self].worth * behind(town, all, hidden, 0, NONE);
        }

        /** No STROKE leaves him more; so ACTS that can't beat the best need no STROKE. */
        private int mostBehind(Town town, int left) {
            boolean mayGain = struck && (town.law.least || town.law.goes == SHARED);
            return mayGain ? town.steps : left;
        }

        /** Takes what beats the best so far of the ACTS with or without work, in the order of III. */
        void search(Town town, int doesWork) {
            Person me = town.persons[self];
            int all = town.hasAfter(self, doesWork);
            for (int eats = 0; eats <= all; eats++) {
                int pleasure = me.pleasure(doesWork, eats);
                for (int gives = 0; gives <= all - eats; gives++) {
                    int left = all - eats - gives;
                    if (pleasure + me.worth * mostBehind(town, left) <= value) {
                        break;
                    }
                    int last = gives == 0 ? NONE : town.people - 1;
                    for (int other = gives == 0 ? NONE : 0; other <= last; other++) {
                        if (other == self) {
                            continue;
                        }
                        int held = behind(town, left, me.hidden, gives, other);
                        if (pleasure + me.worth * held > value) {
                            value = pleasure + me.worth * held;
                            work = doesWork;
                            eaten = eats;
                            given = gives;
                            to = other;
                        }
                    }
                }
            }
        }

        boolean isRestless(Town town, int p) {
            see(town, p, 0, true);
            int still = worthOf(town, 0, 0, 0, NONE);
            value = still;
            search(town, 0);
            return value > still;
        }
    }

    /** Goes through DAYS, and tells of the latest what was LOST and how many did not work. */
    private static final class Walk {
        private final Mind mind = new Mind();
        private final Scene scene = new Scene();
        private final int[] pleasures = new int[MOST_PEOPLE];
        int lost;
        int resting;

        void pass(Town town, boolean struck) {
            resting = 0;
            lost = 0;
            for (int p = 0; p < town.people; p++) {
                pleasures[p] = move(town, p, struck);
            }
            if (struck) {
                town.strikeOn(scene);
                lost = scene.lost;
            }
            for (int p = 0; p < town.people; p++) {
                Person one = town.persons[p];
                one.good += one.worth * one.has + pleasures[p];
            }
            town.days++;
        }

        /** What a person LOST on the latest DAY, if it had a STROKE. */
        int lossOf(int p) {
            return scene.lossOf(p);
        }

        private int move(Town town, int p, boolean struck) {
            Person me = town.persons[p];
            if (me.way == DOES_BEST) {
                mind.see(town, p, 0, struck);
                mind.search(town, 1);
                mind.search(town, 0);
                resting += 1 - mind.work;
                town.perform(p, mind.work, mind.eaten, mind.given, mind.to);
                return me.pleasure(mind.work, mind.eaten);
            }
            town.perform(p, 1, 0, 0, NONE);
            int eaten = 0;
            switch (me.way) {
                case EATS:
                    eaten = Math.max(0, me.shown() - town.topFor(p));
                    town.change(p, -eaten);
                    break;
                case MATCHES:
                    match(town, p);
                    break;
                case LEAGUES:
                    shareWithFriend(town, p);
                    break;
                case HIDES:
                    me.hidden = Math.min(me.told, me.has);
                    break;
                default:
                    break;
            }
            return me.pleasure(1, eaten);
        }

        private void match(Town town, int p) {
            int top = town.topFor(p);
            int above = town.persons[p].shown() - top;
            for (int q = 0; q < town.people && above > 0; q++) {
                if (q != p && town.seenBy(p, q) == top) {
                    town.hand(p, q, above / 2);
                    above = 0;
                }
            }
        }

        private void shareWithFriend(Town town, int p) {
            int friend = town.persons[p].told;
            if (friend < 0 || friend >= town.people || friend == p) {
                return;
            }
            int above = town.persons[p].shown() - town.persons[friend].shown();
            if (above > 0) {
                town.hand(p, friend, above / 2);
            }
        }
    }

    /** The TAPE, and its reading into a TOWN as far as the first FAULT. */
    private static final class Tape {
        private static final int END = 0;
        private static final int WORD = 1;
        private static final int NUMBER = 2;
        private static final int SIGN = 3;
        private static final int OTHER = 4;
        private static final int CANNOT_STAND = 1;
        private static final int NOT_AS_SAID = 2;
        private static final int ONE_TOO_MANY = 3;
        private static final int HUGE = 100000;

        private final byte[] bytes = new byte[MOST_BYTES];
        int size;
        final Town draft = new Town();
        private int kind;
        private int start;
        private int end;
        private int number;
        private boolean lawTold;
        private boolean foundTold;
        private int sights;
        int fault;
        int place = NONE;

        void add(int v) {
            for (int shift = 24; shift >= 0 && size < MOST_BYTES; shift -= 8) {
                bytes[size] = (byte) (v >> shift);
                size++;
            }
        }

        boolean read() {
            draft.clear();
            end = 0;
            lawTold = false;
            foundTold = false;
            sights = 0;
            fault = 0;
            place = NONE;
            advance();
            for (int i = 0; i < size && kind != END && fault == 0; i++) {
                if (draft.lines == 0) {
                    take("town");
                    draft.steps = takeNamed("steps", 5, 30);
                } else if (isAt("law")) {
                    readLaw();
                } else if (isAt("person")) {
                    readPerson();
                } else if (isAt("sees")) {
                    readSight();
                } else if (isAt("found")) {
                    readFound();
                } else {
                    fail(CANNOT_STAND);
                }
                readSign();
            }
            return fault == 0;
        }

        private void readSign() {
            if (fault == 0 && kind == SIGN) {
                draft.lines++;
                advance();
            } else {
                fail(CANNOT_STAND);
            }
        }

        private void fail(int what) {
            if (fault == 0) {
                fault = what;
                place = start;
            }
        }

        private static int kindOf(int b) {
            if (b >= 'a' && b <= 'z') {
                return WORD;
            }
            if (b >= '0' && b <= '9') {
                return NUMBER;
            }
            return b == ';' ? SIGN : OTHER;
        }

        private void advance() {
            start = end;
            while (start < size && (bytes[start] == 32 || bytes[start] == 10)) {
                start++;
            }
            end = start;
            if (start >= size) {
                kind = END;
                return;
            }
            kind = kindOf(bytes[start]);
            end++;
            while (end < size && kind <= NUMBER && kindOf(bytes[end]) == kind) {
                end++;
            }
            number = 0;
            for (int i = start; i < end && kind == NUMBER; i++) {
                number = Math.min(HUGE, number * 10 + bytes[i] - '0');
            }
        }

        private boolean isAt(String word) {
            if (kind != WORD || end - start != word.length()) {
                return false;
            }
            for (int i = 0; i < word.length() && start + i < size; i++) {
                if (bytes[start + i] != word.charAt(i)) {
                    return false;
                }
            }
            return true;
        }

        private boolean takes(String word) {
            if (fault != 0 || !isAt(word)) {
                return false;
            }
            advance();
            return true;
        }

        private void take(String word) {
            if (fault == 0 && isAt(word)) {
                advance();
            } else {
                fail(CANNOT_STAND);
            }
        }

        private int takeNumber(int low, int high) {
            int n = number;
            if (kind != NUMBER) {
                fail(CANNOT_STAND);
            } else if (n < low || n > high) {
                fail(NOT_AS_SAID);
            }
            if (fault == 0) {
                advance();
            }
            return n;
        }

        private int takeNamed(String word, int low, int high) {
            take(word);
            return fault == 0 ? takeNumber(low, high) : 0;
        }

        private void readLaw() {
            if (lawTold) {
                fail(NOT_AS_SAID);
            }
            lawTold = true;
            take("law");
            draft.law.over = takeNamed("over", 0, MOST_THINGS);
            draft.law.ties = takeNamed("ties", LEAST_TIES, MOST_TIES);
            take("goes");
            draft.law.goes = readGoes();
            draft.law.least = takes("least");
        }

        private int readGoes() {
            if (takes("well")) {
                return TO_WELL;
            }
            if (takes("shared")) {
                return SHARED;
            }
            take("burnt");
            return BURNT;
        }

        private void readFound() {
            if (foundTold) {
                fail(NOT_AS_SAID);
            }
            foundTold = true;
            draft.law.found = takeNamed("found", 0, 100);
        }

        private void readPerson() {
            if (draft.people >= MOST_PEOPLE) {
                fail(ONE_TOO_MANY);
                return;
            }
            Person one = draft.persons[draft.people];
            draft.addPerson();
            take("person");
            one.has = takeNamed("has", 0, draft.steps);
            one.brings = takeNamed("brings", 0, 9);
            one.tires = takeNamed("tires", 0, 99);
            one.worth = takeNamed("worth", 0, 99);
            one.eats = takeNamed("eats", 0, 99);
            one.dulls = takeNamed("dulls", 0, 99);
            readWay(one);
        }

        private void readWay(Person one) {
            if (takes("eat")) {
                one.way = EATS;
            } else if (takes("match")) {
                one.way = MATCHES;
            } else if (takes("work")) {
                one.way = WORKS;
            } else if (takes("best")) {
                one.way = DOES_BEST;
            } else if (isAt("hide")) {
                one.way = HIDES;
                one.told = takeNamed("hide", 0, MOST_THINGS);
            } else {
                one.way = LEAGUES;
                one.told = takeNamed("league", 0, MOST_PEOPLE - 1);
            }
        }

        private void readSight() {
            if (sights >= MOST_SIGHTS) {
                fail(ONE_TOO_MANY);
                return;
            }
            sights++;
            int p = takeNamed("sees", 0, draft.people - 1);
            if (kind == NUMBER && number == p) {
                fail(NOT_AS_SAID);
            }
            int q = takeNumber(0, draft.people - 1);
            int step = takeNamed("within", 1, MOST_THINGS);
            if (fault == 0) {
                draft.within[p * MOST_PEOPLE + q] = step;
            }
        }
    }

    /** A SLOT: a row of numbers of one WIDTH, or nothing. */
    private static final class Slot {
        boolean hasRow;
        int width;
        int size;
        final long[] numbers = new long[MOST_NUMBERS];

        void begin(int newWidth, int n) {
            hasRow = true;
            width = newWidth;
            size = n;
            for (int i = 0; i < MOST_NUMBERS; i++) {
                numbers[i] = 0;
            }
        }

        void put(int i, long v) {
            switch (width) {
                case 0:
                    numbers[i] = (byte) v;
                    break;
                case 1:
                    numbers[i] = (short) v;
                    break;
                case 2:
                    numbers[i] = (int) v;
                    break;
                default:
                    numbers[i] = v;
                    break;
            }
        }

        boolean spans(int from, int n) {
            return from >= 0 && n >= 0 && n <= size && from <= size - n;
        }
    }

    private final Tape tape = new Tape();
    private final Town now = new Town();
    private final Town[] thoughts = new Town[MOST_PLANNED];
    private final Town[] images = new Town[IMAGES];
    private final boolean[] kept = new boolean[IMAGES];
    private final Slot[] slots = new Slot[SLOTS];
    private final Scene scene = new Scene();
    private final Mind mind = new Mind();
    private final Walk walk = new Walk();
    /** Of each pair of ACTS in a DUEL, what it is worth to the one and to the other. */
    private final int[] duelWorth = new int[8];
    /** The latest plan(): how much, and the WAYS. */
    private final int[] planned = new int[MOST_PLANNED + 1];

    public SixStroke() {
        for (int i = 0; i < MOST_PLANNED; i++) {
            thoughts[i] = new Town();
        }
        for (int i = 0; i < IMAGES; i++) {
            images[i] = new Town();
        }
        for (int i = 0; i < SLOTS; i++) {
            slots[i] = new Slot();
        }
    }

    // The TAPE and the TOWN

    public int feed(int a, int b, int c, int d, int e) {
        if (tape.size + FED_BYTES > MOST_BYTES) {
            return NONE;
        }
        tape.add(a);
        tape.add(b);
        tape.add(c);
        tape.add(d);
        tape.add(e);
        return tape.size;
    }

    public int end(int n) {
        if (n < 0 || n > tape.size) {
            return NONE;
        }
        tape.size = n;
        return n;
    }

    public int town() {
        if (!tape.read()) {
            return FAULTY;
        }
        now.copyFrom(tape.draft);
        tape.size = 0;
        return now.lines;
    }

    public int fault(int what) {
        if (what == 0) {
            return tape.fault;
        }
        return what == 1 ? tape.place : NONE;
    }

    // PEOPLE

    private boolean isPerson(long p) {
        return p >= 0 && p < now.people;
    }

    private boolean arePair(int p, int q) {
        return isPerson(p) && isPerson(q) && p != q;
    }

    private static boolean areDays(int n) {
        return n >= 1 && n <= MOST_DAYS;
    }

    /** There are so many DAYS, and somebody to live them. */
    private boolean canPass(int n) {
        return areDays(n) && now.people > 0;
    }

    /** The TOWN as it is now, to be changed in thought. */
    private Town startThought() {
        thoughts[0].copyFrom(now);
        return thoughts[0];
    }

    private static boolean isWay(long way) {
        return way >= 0 && way < WAYS;
    }

    public int person(int p, int what) {
        if (!isPerson(p)) {
            return NO_SUCH;
        }
        Person one = now.persons[p];
        switch (what) {
            case 0:
                return one.has;
            case 1:
                return one.hidden;
            case 2:
                return one.way;
            case 3:
                return one.good;
            default:
                return NO_SUCH;
        }
    }

    public int have(int p, int n) {
        if (!isPerson(p) || n < 0 || n > now.steps) {
            return NO_SUCH;
        }
        int was = now.persons[p].has;
        now.persons[p].setHas(n, now.steps);
        return was;
    }

    public int hide(int p, int n) {
        if (!isPerson(p) || n < 0 || n > MOST_THINGS) {
            return NO_SUCH;
        }
        Person one = now.persons[p];
        one.hidden = Math.min(n, one.has);
        return one.hidden;
    }

    public int seen(int p, int q) {
        return arePair(p, q) ? now.seenBy(p, q) : NO_SUCH;
    }

    public int sight(int p, int q, int within) {
        if (!arePair(p, q) || within < 1 || within > MOST_THINGS) {
            return NO_SUCH;
        }
        int at = p * MOST_PEOPLE + q;
        int was = now.within[at];
        now.within[at] = within;
        return was;
    }

    // The STROKE

    private void lookNow() {
        scene.load(now);
        scene.look(now.law);
    }

    public int tops() {
        if (now.people == 0) {
            return NO_SUCH;
        }
        lookNow();
        return scene.topBits;
    }

    public int next() {
        if (now.people == 0) {
            return NO_SUCH;
        }
        lookNow();
        return scene.next;
    }

    public int loses(int p) {
        if (!isPerson(p)) {
            return NO_SUCH;
        }
        lookNow();
        return scene.lossOf(p);
    }

    public int stroke() {
        if (now.people == 0) {
            return NO_SUCH;
        }
        now.strikeOn(scene);
        return scene.lost;
    }

    // ACTS and DAYS

    /** 0, or why an ACT can't be. The numbers are long, since a SLOT's may be beyond an int. */
    private int whyNot(Town town, long p, long work, long eat, long give, long to) {
        if (!isPerson(p) || work < 0 || work > 1 || eat < 0 || give < 0) {
            return NO_SUCH;
        }
        if (give == 0 ? to != NONE : !isPerson(to) || to == p) {
            return NO_SUCH;
        }
        int all = town.hasAfter((int) p, (int) work);
        return eat > all || give > all - eat ? TOO_LITTLE : 0;
    }

    public int act(int p, int work, int eat, int give, int to) {
        int why = whyNot(now, p, work, eat, give, to);
        if (why != 0) {
            return why;
        }
        now.perform(p, work, eat, give, to);
        Person one = now.persons[p];
        one.good += one.pleasure(work, eat);
        return one.has;
    }

    public int judge(int slot) {
        if (slot < 0 || slot >= SLOTS) {
            return NO_SUCH;
        }
        Slot told = slots[slot];
        if (!told.hasRow) {
            return HAS_NOTHING;
        }
        Town town = startThought();
        int acts = told.size / ACT_NUMBERS;
        for (int i = 0; i < acts; i++) {
            if (!doInThought(town, told.numbers, i * ACT_NUMBERS)) {
                return i;
            }
        }
        return acts;
    }

    private boolean doInThought(Town town, long[] row, int at) {
        if (at < 0 || at + ACT_NUMBERS > row.length) {
            return false;
        }
        if (whyNot(town, row[at], row[at + 1], row[at + 2], row[at + 3], row[at + 4]) != 0) {
            return false;
        }
        town.perform((int) row[at], (int) row[at + 1], (int) row[at + 2], (int) row[at + 3],
                (int) row[at + 4]);
        return true;
    }

    public int run(int n) {
        if (!canPass(n)) {
            return NO_SUCH;
        }
        int lost = 0;
        for (int day = 0; day < n; day++) {
            walk.pass(now, true);
            lost += walk.lost;
        }
        return lost;
    }

    // VALUE

    public int value(int p, int work, int eat, int give, int to) {
        if (whyNot(now, p, work, eat, give, to) != 0) {
            return NOTHING;
        }
        mind.see(now, p, 0, true);
        return mind.worthOf(now, work, eat, give, to);
    }

    public int best(int p, int what) {
        if (!isPerson(p) || what < 0 || what > 4) {
            return what == 0 ? NOTHING : NO_SUCH;
        }
        mind.see(now, p, 0, true);
        mind.search(now, 1);
        mind.search(now, 0);
        switch (what) {
            case 0:
                return mind.value;
            case 1:
                return mind.work;
            case 2:
                return mind.eaten;
            case 3:
                return mind.given;
            default:
                return mind.to;
        }
    }

    public int gift(int p, int to) {
        return arePair(p, to) ? leastSaving(p, to) : NO_SUCH;
    }

    private int leastSaving(int p, int to) {
        for (int n = 0; n <= now.persons[p].has; n++) {
            lookAfterHanding(p, to, n);
            if (scene.lossOf(p) == 0) {
                return n;
            }
        }
        return NONE;
    }

    private void lookAfterHanding(int from, int to, int n) {
        scene.load(now);
        scene.hand(from, to, n);
        scene.look(now.law);
    }

    public int gifts(int p) {
        if (!isPerson(p)) {
            return NO_SUCH;
        }
        int whom = NONE;
        int least = NONE;
        for (int q = 0; q < now.people; q++) {
            int n = q == p ? NONE : leastSaving(p, q);
            if (n != NONE && (least == NONE || n < least)) {
                least = n;
                whom = q;
            }
        }
        return whom;
    }

    private int restlessBits(Town town) {
        int bits = 0;
        for (int p = 0; p < town.people; p++) {
            if (mind.isRestless(town, p)) {
                bits |= 1 << p;
            }
        }
        return bits;
    }

    public int restless() {
        return now.people == 0 ? NO_SUCH : restlessBits(now);
    }

    public int rests(int k) {
        if (k < 1 || k > 6 || now.people < 1 || now.people > 3) {
            return NO_SUCH;
        }
        Town town = startThought();
        // nobody can HAVE more than steps, so such ways are none
        int base = Math.max(1, Math.min(k, now.steps) + 1);
        int all = 1;
        for (int p = 0; p < now.people; p++) {
            town.persons[p].hidden = 0;
            all *= base;
        }
        int many = 0;
        for (int code = 0; code < all; code++) {
            int rest = code;
            for (int p = 0; p < now.people; p++) {
                town.persons[p].has = rest % base;
                rest /= base;
            }
            if (restlessBits(town) == 0) {
                many++;
            }
        }
        return many;
    }

    // WAYS

    private void turnInThought(Town town, int p, int way) {
        town.persons[p].told = now.persons[p].toldFor(way);
        town.persons[p].way = way;
    }

    private int goodBy(int p, int way, int n) {
        Town town = startThought();
        turnInThought(town, p, way);
        for (int day = 0; day < n; day++) {
            walk.pass(town, true);
        }
        return town.persons[p].good - now.persons[p].good;
    }

    public int total(int p, int way, int n) {
        return isPerson(p) && isWay(way) && areDays(n) ? goodBy(p, way, n) : NOTHING;
    }

    public int way(int p, int n) {
        if (!isPerson(p) || !areDays(n)) {
            return NO_SUCH;
        }
        int most = NOTHING;
        int which = 0;
        for (int way = 0; way < WAYS; way++) {
            int good = goodBy(p, way, n);
            if (good > most) {
                most = good;
                which = way;
            }
        }
        return which;
    }

    public int turnsTo(int p, int way) {
        if (!isPerson(p) || !isWay(way)) {
            return NO_SUCH;
        }
        int was = now.persons[p].way;
        turnInThought(now, p, way);
        return was;
    }

    public int idle(int n) {
        if (!canPass(n)) {
            return NO_SUCH;
        }
        Town town = startThought();
        int many = 0;
        for (int day = 0; day < n; day++) {
            walk.pass(town, true);
            many += walk.resting;
        }
        return many;
    }

    public int spread() {
        return now.spreadOut();
    }

    public int beside(int n, int what) {
        if (!canPass(n) || what < 0 || what > 4) {
            return NOTHING;
        }
        boolean struck = what != 1 && what != 4;
        Town town = startThought();
        int lost = 0;
        for (int day = 0; day < n; day++) {
            walk.pass(town, struck);
            lost += walk.lost;
        }
        if (what < 2) {
            return town.spreadOut();
        }
        return what == 2 ? lost : town.goodOfAll() - now.goodOfAll();
    }

    // The law and leagues

    public int law(int over, int ties, int goes, boolean least) {
        if (now.lines == 0 || over < 0 || over > MOST_THINGS || ties < LEAST_TIES
                || ties > MOST_TIES || goes < TO_WELL || goes > BURNT) {
            return NO_SUCH;
        }
        now.law.over = over;
        now.law.ties = ties;
        now.law.goes = goes;
        now.law.least = least;
        return 0;
    }

    public int laws(int n) {
        if (!canPass(n)) {
            return NO_SUCH;
        }
        int which = LEAST_TIES;
        int least = spreadByTies(which, n);
        for (int ties = LEAST_TIES + 1; ties <= MOST_TIES; ties++) {
            int spread = spreadByTies(ties, n);
            if (spread < least) {
                least = spread;
                which = ties;
            }
        }
        return which;
    }

    private int spreadByTies(int ties, int n) {
        Town town = startThought();
        town.law.ties = ties;
        for (int day = 0; day < n; day++) {
            walk.pass(town, true);
        }
        return town.spreadOut();
    }

    public int leaves(int one, int other) {
        if (!arePair(one, other)) {
            return NO_SUCH;
        }
        Town town = startThought();
        int more = Math.max(now.persons[one].has, now.persons[other].has);
        town.persons[one].has = more;
        town.persons[other].has = more;
        int who = mind.isRestless(town, one) ? 1 : 0;
        return mind.isRestless(town, other) ? who + 2 : who;
    }

    public int breaks(int p, int to) {
        return arePair(p, to) ? leastBreaking(p, to) : NO_SUCH;
    }

    private int leastBreaking(int p, int to) {
        for (int n = 0; n <= now.persons[p].has; n++) {
            lookAfterHanding(p, to, n);
            if (scene.lossOf(to) > 0) {
                return n;
            }
        }
        return NONE;
    }

    public int third(int p) {
        if (!isPerson(p)) {
            return NO_SUCH;
        }
        int least = NONE;
        for (int q = 0; q < now.people; q++) {
            int n = q == p ? NONE : leastBreaking(p, q);
            if (n != NONE && (least == NONE || n < least)) {
                least = n;
            }
        }
        return least;
    }

    /** The true VALUE of what is best for him, if he sees those in clear just as they are. */
    private int trueWorth(int p, int clear) {
        mind.see(now, p, clear, true);
        mind.search(now, 1);
        mind.search(now, 0);
        mind.see(now, p, EVERYBODY, true);
        return mind.worthOf(now, mind.work, mind.eaten, mind.given, mind.to);
    }

    public int know(int p) {
        return isPerson(p) ? trueWorth(p, EVERYBODY) - trueWorth(p, 0) : NOTHING;
    }

    public int knows(int p, int q) {
        return arePair(p, q) ? trueWorth(p, 1 << q) - trueWorth(p, 0) : NOTHING;
    }

    // LOANS and hiding

    public int lend(int from, int to, int n) {
        if (!arePair(from, to) || n < 1 || n > MOST_THINGS) {
            return NO_SUCH;
        }
        int at = now.loans.many;
        if (at >= MOST_LOANS) {
            return TOO_MANY;
        }
        if (!canLend(from, to, n)) {
            return TOO_LITTLE;
        }
        now.hand(from, to, n);
        now.loans.lender[at] = from;
        now.loans.borrower[at] = to;
        now.loans.amount[at] = n;
        now.loans.many = at + 1;
        return now.loans.many;
    }

    private boolean canLend(int from, int to, int n) {
        return n <= now.persons[from].has && now.persons[to].has + n <= now.steps;
    }

    public int round(int from, int to) {
        if (!arePair(from, to)) {
            return NO_SUCH;
        }
        for (int n = 1; n <= MOST_THINGS && canLend(from, to, n); n++) {
            lookAfterHanding(from, to, n);
            if (scene.lossOf(from) == 0 && scene.lossOf(to) == 0) {
                return n;
            }
        }
        return NONE;
    }

    private boolean canHide(int p, int n) {
        return isPerson(p) && n >= 0 && n <= now.persons[p].has;
    }

    private static int mixByFound(int hidden, int gone, int found) {
        return (hidden * (100 - found) + gone * found) / 100;
    }

    public int hides(int p, int n) {
        if (!canHide(p, n)) {
            return NOTHING;
        }
        int has = now.persons[p].has;
        mind.see(now, p, 0, true);
        int hidden = mind.worthOfHolding(now, has, n);
        int gone = mind.worthOfHolding(now, has - n, 0);
        return mixByFound(hidden, gone, now.law.found);
    }

    public int edge(int p, int n) {
        if (!canHide(p, n)) {
            return NO_SUCH;
        }
        int has = now.persons[p].has;
        mind.see(now, p, 0, true);
        int hidden = mind.worthOfHolding(now, has, n);
        int gone = mind.worthOfHolding(now, has - n, 0);
        int open = mind.worthOfHolding(now, has, 0);
        for (int found = 0; found <= 100; found++) {
            if (mixByFound(hidden, gone, found) <= open) {
                return found;
            }
        }
        return NONE;
    }

    // DAYS in thought

    public int pays(int p, int n) {
        if (!isPerson(p) || !areDays(n)) {
            return NO_SUCH;
        }
        Town town = startThought();
        int sum = 0;
        for (int day = 0; day < n; day++) {
            walk.pass(town, true);
            sum += walk.lossOf(p);
        }
        return sum;
    }

    public int quiet(int n, int what) {
        if (!canPass(n) || what < 0 || what > 1) {
            return NO_SUCH;
        }
        Town town = startThought();
        int many = 0;
        int first = 0;
        for (int day = 1; day <= n; day++) {
            walk.pass(town, true);
            if (walk.lost == 0) {
                many++;
                first = first == 0 ? day : first;
            }
        }
        return what == 0 ? many : first;
    }

    private boolean hasAsNow(Town town) {
        for (int p = 0; p < town.people; p++) {
            if (town.persons[p].has != now.persons[p].has) {
                return false;
            }
        }
        return true;
    }

    public int again(int n) {
        if (!canPass(n)) {
            return NO_SUCH;
        }
        Town town = startThought();
        for (int day = 1; day <= n; day++) {
            walk.pass(town, true);
            if (hasAsNow(town)) {
                return day;
            }
        }
        return NONE;
    }

    public int alike(int n) {
        if (!canPass(n)) {
            return NO_SUCH;
        }
        Town town = startThought();
        for (int day = 1; day <= n; day++) {
            walk.pass(town, true);
            if (town.spreadOut() == 0) {
                return day;
            }
        }
        return NONE;
    }

    private boolean tellsWays(Slot told) {
        if (!told.hasRow || told.size < 1 || told.size > MOST_DAYS) {
            return false;
        }
        for (int i = 0; i < told.size; i++) {
            if (!isWay(told.numbers[i])) {
                return false;
            }
        }
        return true;
    }

    public int follows(int p, int slot) {
        if (!isPerson(p) || slot < 0 || slot >= SLOTS || !tellsWays(slots[slot])) {
            return NOTHING;
        }
        Slot told = slots[slot];
        Town town = startThought();
        for (int day = 0; day < told.size; day++) {
            turnInThought(town, p, (int) told.numbers[day]);
            walk.pass(town, true);
        }
        return town.persons[p].good - now.persons[p].good;
    }

    public int plan(int p, int n, int what) {
        if (!isPerson(p) || n < 1 || n > MOST_PLANNED || what < 0 || what > n) {
            return NOTHING;
        }
        int rows = 1;
        for (int day = 0; day < n; day++) {
            rows *= WAYS;
        }
        planned[0] = NOTHING;
        for (int row = 0; row < rows; row++) {
            int good = goodByRow(p, n, row, rows);
            if (good > planned[0]) {
                planned[0] = good;
                notePlan(n, row);
            }
        }
        return planned[what];
    }

    /** Rows come in their order, so a DAY is gone through anew only where a WAY has changed. */
    private int goodByRow(int p, int n, int row, int rows) {
        int block = rows;
        Town before = now;
        for (int day = 0; day < n; day++) {
            block = Math.max(1, block / WAYS);
            Town town = thoughts[day];
            if (row % block == 0) {
                town.copyFrom(before);
                turnInThought(town, p, row / block % WAYS);
                walk.pass(town, true);
            }
            before = town;
        }
        return before.persons[p].good - now.persons[p].good;
    }

    private void notePlan(int n, int row) {
        int rest = row;
        for (int day = n; day >= 1; day--) {
            planned[day] = rest % WAYS;
            rest /= WAYS;
        }
    }

    public int open() {
        if (now.people == 0) {
            return NO_SUCH;
        }
        int share = now.well / now.people;
        for (int p = 0; p < now.people; p++) {
            now.change(p, share);
        }
        now.well -= share * now.people;
        return share;
    }

    // DUEL

    private void fillDuel(int one, int other) {
        for (int pair = 0; pair < 4; pair++) {
            scene.load(now);
            int first = Math.min(pair & 1, scene.has[one]);
            int second = Math.min(pair >> 1, scene.has[other]);
            scene.spend(one, first);
            scene.spend(other, second);
            scene.strike(now.law);
            duelWorth[pair * 2] = heldWorth(one, first);
            duelWorth[pair * 2 + 1] = heldWorth(other, second);
        }
    }

    private int heldWorth(int p, int eaten) {
        Person one = now.persons[p];
        return one.worth * scene.has[p] + one.pleasure(0, eaten);
    }

    public int duel(int one, int other) {
        if (!arePair(one, other)) {
            return NO_SUCH;
        }
        fillDuel(one, other);
        int bits = 0;
        for (int pair = 0; pair < 4; pair++) {
            boolean oneStays = duelWorth[pair * 2] >= duelWorth[(pair ^ 1) * 2];
            boolean otherStays = duelWorth[pair * 2 + 1] >= duelWorth[(pair ^ 2) * 2 + 1];
            if (oneStays && otherStays) {
                bits |= 1 << pair;
            }
        }
        return bits;
    }

    public int mixed(int one, int other) {
        if (!arePair(one, other)) {
            return NO_SUCH;
        }
        fillDuel(one, other);
        int a = duelWorth[5] - duelWorth[1];
        int b = a - (duelWorth[7] - duelWorth[3]);
        if (b == 0) {
            return NONE;
        }
        int many = 10000 * a / b;
        return many < 0 || many > 10000 ? NONE : many;
    }

    // The seed, counts and IMAGES

    public int seed(int v) {
        if (v < 0 || v > MOST_SEED) {
            return NO_SUCH;
        }
        now.seed = v;
        return 0;
    }

    public int count(int what) {
        switch (what) {
            case 0:
                return now.steps;
            case 1:
                return now.people;
            case 2:
                return now.lines;
            case 3:
                return tape.size;
            case 4:
                return now.well;
            case 5:
                return now.loans.many;
            case 6:
                return now.days;
            case 7:
                return now.law.over;
            case 8:
                return now.law.ties;
            case 9:
                return now.law.goes;
            case 10:
                return now.law.least ? 1 : 0;
            case 11:
                return now.law.found;
            case 12:
                return slotsWithRow();
            default:
                return NONE;
        }
    }

    private int slotsWithRow() {
        int many = 0;
        for (int i = 0; i < SLOTS; i++) {
            many += slots[i].hasRow ? 1 : 0;
        }
        return many;
    }

    public int keep(int k) {
        if (k < 0 || k >= IMAGES) {
            return NO_SUCH;
        }
        images[k].copyFrom(now);
        kept[k] = true;
        return 0;
    }

    public int back(int k) {
        if (k < 0 || k >= IMAGES) {
            return NO_SUCH;
        }
        if (!kept[k]) {
            return HAS_NOTHING;
        }
        now.copyFrom(images[k]);
        return 0;
    }

    // SLOTS

    private static boolean isSlot(int slot) {
        return slot >= 0 && slot < SLOTS;
    }

    public int row(int slot, int width, int n) {
        if (!isSlot(slot) || width < 0 || width >= WIDTHS || n > MOST_NUMBERS) {
            return NO_SUCH;
        }
        if (n < 0) {
            return BELOW_ZERO;
        }
        slots[slot].begin(width, n);
        return 0;
    }

    public int write(int slot, int i, long v) {
        if (!isSlot(slot)) {
            return NO_SUCH;
        }
        Slot told = slots[slot];
        if (!told.hasRow) {
            return HAS_NOTHING;
        }
        if (i < 0 || i >= told.size) {
            return BEYOND;
        }
        told.put(i, v);
        return 0;
    }

    public int paste(int slot, int i, int to, int k, int n) {
        if (!isSlot(slot) || !isSlot(to)) {
            return NO_SUCH;
        }
        Slot source = slots[slot];
        Slot target = slots[to];
        if (!source.hasRow || !target.hasRow) {
            return HAS_NOTHING;
        }
        if (source.width != target.width) {
            return UNLIKE;
        }
        if (!source.spans(i, n) || !target.spans(k, n)) {
            return BEYOND;
        }
        System.arraycopy(source.numbers, i, target.numbers, k, n);
        return 0;
    }
}
