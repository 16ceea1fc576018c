import java.util.Arrays;
import java.util.NoSuchElementException;

/**
 * Posts with terms: bonds of people and offices, and the matchings of them that nobody breaks.
 *
 * Inside, a set of bonds is held in one of two forms: as the bits of the bonds' numbers ("set", the form of the
 * calls), or as the bits of their slots ("slots"). An office has eight slots in a row, so what it has of a matching is
 * one byte ("part"), and all that it takes, of any offer, is a table of 256 entries.
 */
public final class SealedBonds {
    public static final int NONE = -1;

    private static final int THERE_IS_NONE = -2;
    private static final int NO_OUTCOME = -3;
    private static final int NO_SUCH_OFFICE = -100;

    private final Bonds bonds;
    private final People people;
    private final Couples couples;
    private final Desk[] desks;
    private final Matchings matchings;
    private final Walk walk;
    private final Standing standing;
    private final Offers offers;
    private final Text text;
    private final Row told;
    private Choice spare;
    private int offices;

    public SealedBonds() {
        bonds = new Bonds();
        people = new People();
        couples = new Couples();
        desks = new Desk[Desk.MOST];
        for (int i = 0; i < Desk.MOST; i++) {
            desks[i] = new Desk(i, bonds, people);
        }
        matchings = new Matchings(bonds, people, couples, desks);
        walk = new Walk(bonds, people, couples, matchings);
        standing = new Standing(people, couples, matchings, walk);
        offers = new Offers(bonds, people, desks);
        text = new Text();
        told = new Row();
        spare = new Choice();
        offices = 0;
    }

    // ---- who there is

    public int person(int kind) {
        if (kind < 0 || kind >= People.KINDS || people.size >= People.MOST) {
            return NONE;
        }
        standing.known = false;
        return people.join(kind);
    }

    public int office() {
        if (offices >= Desk.MOST) {
            return NONE;
        }
        standing.known = false;
        offices++;
        return offices - 1;
    }

    public int bond(int person, int office, int pay, int years, int town) {
        if (!people.has(person) || !hasOffice(office) || !bonds.hasRoom(person, office)) {
            return NONE;
        }
        if (pay < 0 || pay > 99 || years < 0 || years > 9 || town < 0 || town > 9) {
            return NONE;
        }
        standing.known = false;
        desks[office].forget();
        return bonds.join(person, office, pay, years, town);
    }

    public int list(int bond) {
        if (!bonds.has(bond) || people.place[bond] != NONE) {
            return NONE;
        }
        standing.known = false;
        return people.enlist(bonds.owner[bond], bond, 1 << bonds.slot[bond]);
    }

    public int clear(int person) {
        if (!people.has(person)) {
            return NONE;
        }
        standing.known = false;
        return people.strike(person);
    }

    public int couple(int first, int second) {
        if (!people.isSingle(first) || !people.isSingle(second) || first == second || couples.size >= Couples.MOST) {
            return NONE;
        }
        standing.known = false;
        people.coupleOf[first] = couples.size;
        people.coupleOf[second] = couples.size;
        return couples.join(first, second);
    }

    public int pair(int couple, int first, int second) {
        if (!couples.has(couple) || first == NONE && second == NONE) {
            return NONE;
        }
        if (!isBondOrNoneOf(first, couples.first[couple]) || !isBondOrNoneOf(second, couples.second[couple])) {
            return NONE;
        }
        int set = (first == NONE ? 0 : 1 << first) | (second == NONE ? 0 : 1 << second);
        if (couples.pairs[couple] >= Couples.PAIRS || couples.rankOf(couple, set) != NONE) {
            return NONE;
        }
        standing.known = false;
        return couples.enlist(couple, set, bonds.slotsOf(set));
    }

    private boolean hasOffice(int office) {
        return office >= 0 && office < offices;
    }

    private boolean isBondOrNoneOf(int bond, int person) {
        return bond == NONE || bonds.has(bond) && bonds.owner[bond] == person;
    }

    // ---- choices

    public int sign(int v) {
        return text.append(v);
    }

    public boolean end(int n) {
        if (n < 0 || n > text.size) {
            return false;
        }
        text.size = n;
        return true;
    }

    public int choice(int office) {
        if (!hasOffice(office)) {
            text.size = 0;
            return NO_SUCH_OFFICE;
        }
        int lines = text.read(spare);
        text.size = 0;
        if (lines > 0) {
            Choice former = desks[office].choice;
            desks[office].choice = spare;
            desks[office].forget();
            spare = former;
            standing.known = false;
        }
        return lines;
    }

    public int take(int office, int offered) {
        if (!hasOffice(office) || !bonds.hasSet(offered)) {
            return NONE;
        }
        return bonds.setOfPart(office, desks[office].takes(partOf(office, offered)));
    }

    public int why(int office, int offered, int bond) {
        if (!hasOffice(office) || !bonds.hasSet(offered) || !bonds.has(bond)) {
            return NONE;
        }
        if (bonds.desk[bond] != office || (offered >>> bond & 1) == 0) {
            return NONE;
        }
        return desks[office].reason(partOf(office, offered), bonds.indexOf(bond));
    }

    public int order(int bond) {
        if (!bonds.has(bond)) {
            return NONE;
        }
        return desks[bonds.desk[bond]].placeOf(bonds.indexOf(bond));
    }

    public int law(int office, int what) {
        if (!hasOffice(office) || what < 0 || what > 1) {
            return NONE;
        }
        int parts = 1 << bonds.ofOffice[office];
        for (int part = 0; part < parts; part++) {
            for (int more = 0; more < bonds.ofOffice[office]; more++) {
                if ((part >>> more & 1) == 0 && isBreach(office, what, part, more)) {
                    return 0;
                }
            }
        }
        return 1;
    }

    /** Tells the ROW, if it is one. */
    private boolean isBreach(int office, int what, int part, int more) {
        int taken = desks[office].takes(part);
        int then = desks[office].takes(part | 1 << more);
        int regained = part & ~taken & then;
        boolean breach = what == 0 ? regained != 0 : Integer.bitCount(then) < Integer.bitCount(taken);
        if (!breach) {
            return false;
        }
        told.empty();
        told.add(bonds.setOfPart(office, part));
        told.add(bonds.bondAt[office * Bonds.OF_OFFICE + more]);
        if (what == 0) {
            told.add(bonds.bondAt[office * Bonds.OF_OFFICE + Integer.numberOfTrailingZeros(regained)]);
        }
        return true;
    }

    private int partOf(int office, int set) {
        return Bonds.partOf(office, bonds.slotsOf(set));
    }

    // ---- matchings

    public int judge(int set) {
        if (!bonds.hasSet(set)) {
            return NONE;
        }
        if (!matchings.isMatching(set)) {
            return 1;
        }
        matchings.readyWithoutMore();
        int slots = bonds.slotsOf(set);
        if (!matchings.isFree(set, slots)) {
            return 2;
        }
        int wanted = matchings.wanted(set);
        int office = matchings.breakingOffice(slots, wanted);
        if (office != NONE) {
            tellTwo(office, bonds.setOfPart(office, matchings.leastBreaking(office, slots, wanted)));
            return 3;
        }
        for (int c = 0; c < couples.size; c++) {
            int pair = matchings.breakingPair(c, set, slots);
            if (pair != NONE) {
                tellTwo(c, pair);
                return 4;
            }
        }
        return 0;
    }

    public int offer() {
        offers.load();
        if (!offers.run()) {
            return NO_OUTCOME;
        }
        tellTwo(offers.rounds, offers.offered);
        return bonds.setOf(offers.held);
    }

    public int all() {
        standing.know();
        told.empty();
        for (int i = 0; i < standing.size && i < Row.MOST; i++) {
            told.add(standing.sets[i]);
        }
        return standing.size;
    }

    public int best(int side) {
        if (side < 0 || side > 1) {
            return NONE;
        }
        standing.know();
        int i = standing.extreme(side == 0);
        return i == NONE ? THERE_IS_NONE : standing.sets[i];
    }

    public int steps(int from, int to) {
        standing.know();
        int start = standing.indexOf(from);
        int goal = standing.indexOf(to);
        if (start == NONE || goal == NONE) {
            return NONE;
        }
        int steps = standing.distance(start, goal);
        return steps == NONE ? THERE_IS_NONE : steps;
    }

    private void tellTwo(int first, int second) {
        told.empty();
        told.add(first);
        told.add(second);
    }

    // ---- if there is none

    public int near() {
        matchings.readyWithoutMore();
        walk.prepare(Walk.NEAREST);
        walk.step(0, 0, 0, walk.wantedAtFirst, 0);
        told.empty();
        told.add(walk.nearest);
        return walk.fewest;
    }

    public int places() {
        walk.prepare(Walk.ANY);
        for (int total = 0; total < Desk.LEVELS; total++) {
            // Two bits for each office, the first office highest: ascending codes are ascending rows.
            for (int code = 0; code < 256; code++) {
                if (matchings.readyWithMore(code, total) && walk.step(0, 0, 0, walk.wantedAtFirst, 0)) {
                    told.empty();
                    for (int o = 0; o < offices; o++) {
                        told.add(matchings.more[o]);
                    }
                    return total;
                }
            }
        }
        return THERE_IS_NONE;
    }

    // ---- false lists

    public int gain(int person) {
        if (!people.isSingle(person)) {
            return NONE;
        }
        offers.load();
        if (!offers.run()) {
            return 0;
        }
        int truly = offers.rankHeldBy(person);
        for (int length = 1; length <= bonds.ofPerson[person]; length++) {
            if (offers.gainsByLie(person, truly, length, 0, 0)) {
                told.empty();
                for (int i = 0; i < length; i++) {
                    told.add(offers.lists[person * People.LISTED + i]);
                }
                return 1;
            }
        }
        return 0;
    }

    public int left() {
        standing.know();
        if (standing.size == 0) {
            return THERE_IS_NONE;
        }
        int ever = 0;
        for (int i = 0; i < standing.size; i++) {
            ever |= standing.sets[i];
        }
        int left = 0;
        for (int p = 0; p < people.size; p++) {
            if ((ever & bonds.setOfPerson[p]) == 0) {
                left |= 1 << p;
            }
        }
        return left;
    }

    public int same() {
        standing.know();
        if (standing.size == 0) {
            return THERE_IS_NONE;
        }
        int unlike = 0;
        for (int i = 1; i < standing.size; i++) {
            unlike |= standing.sets[0] ^ standing.sets[i];
        }
        int same = 0;
        for (int o = 0; o < offices; o++) {
            if (partOf(o, unlike) == 0) {
                same |= 1 << o;
            }
        }
        return same;
    }

    // ---- lots

    public int lot(int bond) {
        if (!bonds.has(bond)) {
            return NONE;
        }
        standing.know();
        if (standing.size == 0) {
            return THERE_IS_NONE;
        }
        int above = 0;
        for (int i = 0; i < standing.size; i++) {
            above += standing.sets[i] >>> bond & 1;
        }
        int divisor = greatestDivisor(above, standing.size);
        if (divisor == 0) {
            return THERE_IS_NONE;
        }
        tellTwo(above / divisor, standing.size / divisor);
        return 1000 * above / standing.size;
    }

    public int mean() {
        standing.know();
        if (standing.size == 0) {
            return THERE_IS_NONE;
        }
        int mean = 0;
        for (int p = 0; p < people.size; p++) {
            if (people.isSingle(p)) {
                mean |= standing.midst(p);
            }
        }
        return mean;
    }

    private static int greatestDivisor(int a, int b) {
        int greater = a;
        int less = b;
        for (int i = 0; i < 64 && less != 0; i++) {
            int rest = greater % less;
            greater = less;
            less = rest;
        }
        return greater;
    }

    // ---- what comes and goes

    public int gone(int what, int number) {
        boolean there = what == 0 && people.has(number) || what == 1 && bonds.has(number);
        if (!there) {
            return NONE;
        }
        offers.load();
        if (!offers.run()) {
            return NO_OUTCOME;
        }
        int before = offers.held;
        if (what == 0) {
            offers.silence(number);
        } else {
            offers.withdraw(number);
        }
        if (!offers.run()) {
            return NO_OUTCOME;
        }
        int moved = 0;
        for (int p = 0; p < people.size; p++) {
            if (((before ^ offers.held) & bonds.slotsOfPerson[p]) != 0) {
                moved |= 1 << p;
            }
        }
        tellTwo(bonds.setOf(offers.held), moved);
        return Integer.bitCount(moved);
    }

    public int count(int what) {
        switch (what) {
            case 0: return people.size;
            case 1: return offices;
            case 2: return bonds.size;
            case 3: return couples.size;
            case 4: return text.size;
            case 5: return told.size;
            default: return NONE;
        }
    }

    public int of(int bond, int what) {
        if (!bonds.has(bond)) {
            return NONE;
        }
        switch (what) {
            case 0: return bonds.owner[bond];
            case 1: return bonds.desk[bond];
            case 2: return bonds.pay[bond];
            case 3: return bonds.years[bond];
            case 4: return bonds.town[bond];
            case 5: return people.place[bond];
            default: return NONE;
        }
    }

    public int row(int i) throws NoSuchElementException {
        if (i < 0 || i >= told.size) {
            throw new NoSuchElementException("the ROW has no such number");
        }
        return told.numbers[i];
    }

    /** THE ROW. */
    private static final class Row {
        static final int MOST = 40;
        final int[] numbers = new int[MOST];
        int size;

        void empty() {
            size = 0;
        }

        void add(int number) {
            if (size < MOST) {
                numbers[size] = number;
                size++;
            }
        }
    }

    /** THE TEXT, and how it is read. */
    private static final class Text {
        static final int MOST = 100;
        static final int MOST_READ = 60;
        static final int MOST_DIGITS = 3;
        static final int END = -1;
        static final int BEYOND = -2;
        static final String LETTERS = "pytkn";
        final char[] signs = new char[MOST];
        int size;
        private int at;
        private Choice choice;

        int append(int v) {
            if (size + 4 > MOST) {
                return NONE;
            }
            for (int shift = 24; shift >= 0; shift -= 8) {
                signs[size] = (char) (v >>> shift & 255);
                size++;
            }
            return size;
        }

        /** How many LINES there are, or -1 less the place of the sign that can't stand there. */
        int read(Choice into) {
            choice = into;
            choice.reset();
            at = 0;
            for (int lines = 1; lines <= MOST_READ; lines++) {
                if (!readLine()) {
                    return -1 - at;
                }
                if (next() == END) {
                    choice.told = true;
                    return lines;
                }
                if (!pass(';')) {
                    return -1 - at;
                }
            }
            return -1 - at;
        }

        /** The sign at hand. The sign behind the 60th is like none that may stand anywhere. */
        private int next() {
            if (at >= size) {
                return END;
            }
            return at < MOST_READ ? signs[at] : BEYOND;
        }

        private boolean pass(int sign) {
            if (next() != sign) {
                return false;
            }
            at++;
            return true;
        }

        private boolean readLine() {
            int form = next();
            switch (form) {
                case 'q':
                case 'c':
                    at++;
                    return readNumber(form);
                case 'r':
                    at++;
                    return readKeys();
                case 'k':
                    at++;
                    return readKept();
                case 'w':
                    at++;
                    return readTwo('&', choice.together);
                case 'x':
                    at++;
                    return readTwo('|', choice.never);
                default:
                    return false;
            }
        }

        /** The digit at hand, passed over; NONE if there is none, or a greater one than the greatest. */
        private int readDigit(int greatest) {
            int digit = next() - '0';
            if (digit < 0 || digit > greatest) {
                return NONE;
            }
            at++;
            return digit;
        }

        private boolean readNumber(int form) {
            int number = readDigit(9);
            if (number == NONE) {
                return false;
            }
            for (int i = 1; i < MOST_DIGITS; i++) {
                int digit = readDigit(9);
                if (digit == NONE) {
                    break;
                }
                number = number * 10 + digit;
            }
            if (form == 'q') {
                choice.most = number;
            } else {
                choice.dearest = number;
            }
            return true;
        }

        private boolean readKeys() {
            choice.keyCount = 0;
            for (int i = 0; i < Choice.KEYS; i++) {
                int way = next();
                if (way != '+' && way != '-') {
                    return i > 0;
                }
                at++;
                int letter = next();
                if (letter < 0 || LETTERS.indexOf((char) letter) < 0) {
                    return false;
                }
                at++;
                choice.keyLetters[i] = letter;
                choice.keyWays[i] = way == '+' ? 1 : -1;
                choice.keyCount = i + 1;
            }
            return true;
        }

        private boolean readKept() {
            int kind = readDigit(People.KINDS - 1);
            if (kind == NONE || !pass('*')) {
                return false;
            }
            int kept = readDigit(9);
            if (kept == NONE) {
                return false;
            }
            // Of lines of one KIND the greatest digit is the strictest, so it alone need be known.
            choice.kept[kind] = Math.max(choice.kept[kind], kept);
            return true;
        }

        private boolean readTwo(int between, int[] partners) {
            int one = readDigit(People.MOST - 1);
            if (one == NONE || !pass(between) || next() - '0' == one) {
                return false;
            }
            int other = readDigit(People.MOST - 1);
            if (other == NONE) {
                return false;
            }
            partners[one] |= 1 << other;
            partners[other] |= 1 << one;
            return true;
        }
    }

    /** What an OFFICE's text says. */
    private static final class Choice {
        static final int KEYS = 5;
        static final int PLACES = 8;
        static final int NO_BOUND = 1000000;
        boolean told;
        int most = PLACES;
        int dearest = NO_BOUND;
        int keyCount;
        final int[] keyLetters = new int[KEYS];
        final int[] keyWays = new int[KEYS];
        final int[] kept = new int[People.KINDS];
        final int[] together = new int[People.MOST];
        final int[] never = new int[People.MOST];

        void reset() {
            told = false;
            most = PLACES;
            dearest = NO_BOUND;
            keyCount = 0;
            Arrays.fill(kept, 0);
            Arrays.fill(together, 0);
            Arrays.fill(never, 0);
        }

        /** What q tells with some places more: these lead to 8 at most, and take none away. */
        int mostWith(int more) {
            return Math.max(most, Math.min(PLACES, most + more));
        }

        boolean keepsTogether(int persons) {
            for (int p = 0; p < People.MOST; p++) {
                if ((persons >>> p & 1) != 0 && (together[p] & ~persons) != 0) {
                    return false;
                }
            }
            return true;
        }

        boolean keepsApart(int persons) {
            for (int p = 0; p < People.MOST; p++) {
                if ((persons >>> p & 1) != 0 && (never[p] & persons) != 0) {
                    return false;
                }
            }
            return true;
        }
    }

    /** PEOPLE and their LISTS. */
    private static final class People {
        static final int MOST = 7;
        static final int KINDS = 4;
        static final int LISTED = Bonds.OF_PERSON;
        int size;
        final int[] kind = new int[MOST];
        final int[] ofKind = new int[KINDS];
        final int[] coupleOf = new int[MOST];
        final int[] lists = new int[MOST * LISTED];
        final int[] listed = new int[MOST];
        final int[] listSlots = new int[MOST];
        final int[] place = new int[Bonds.MOST];
        final int[] aheadSlots = new int[Bonds.MOST];

        People() {
            Arrays.fill(coupleOf, NONE);
            Arrays.fill(place, NONE);
        }

        boolean has(int person) {
            return person >= 0 && person < size;
        }

        boolean isSingle(int person) {
            return has(person) && coupleOf[person] == NONE;
        }

        int join(int itsKind) {
            kind[size] = itsKind;
            ofKind[itsKind] |= 1 << size;
            size++;
            return size - 1;
        }

        int enlist(int person, int bond, int slot) {
            int end = listed[person];
            if (end >= LISTED) {
                return NONE;
            }
            lists[person * LISTED + end] = bond;
            place[bond] = end;
            aheadSlots[bond] = listSlots[person];
            listSlots[person] |= slot;
            listed[person] = end + 1;
            return end + 1;
        }

        int strike(int person) {
            int former = listed[person];
            for (int i = 0; i < former; i++) {
                place[lists[person * LISTED + i]] = NONE;
            }
            listed[person] = 0;
            listSlots[person] = 0;
            return former;
        }
    }

    /** BONDS and their slots: eight in a row for each OFFICE, in the order of their numbers. */
    private static final class Bonds {
        static final int MOST = 20;
        static final int OF_OFFICE = 8;
        static final int OF_PERSON = 5;
        int size;
        final int[] owner = new int[MOST];
        final int[] desk = new int[MOST];
        final int[] pay = new int[MOST];
        final int[] years = new int[MOST];
        final int[] town = new int[MOST];
        final int[] slot = new int[MOST];
        final int[] bondAt = new int[Desk.MOST * OF_OFFICE];
        final int[] ofOffice = new int[Desk.MOST];
        final int[] ofPerson = new int[People.MOST];
        final int[] bondsOfPerson = new int[People.MOST * OF_PERSON];
        final int[] setOfPerson = new int[People.MOST];
        final int[] slotsOfPerson = new int[People.MOST];

        static int partOf(int office, int slots) {
            return slots >>> office * OF_OFFICE & 255;
        }

        boolean has(int bond) {
            return bond >= 0 && bond < size;
        }

        boolean hasSet(int set) {
            return set >= 0 && set >>> size == 0;
        }

        boolean hasRoom(int person, int office) {
            return size < MOST && ofOffice[office] < OF_OFFICE && ofPerson[person] < OF_PERSON;
        }

        int join(int person, int office, int itsPay, int itsYears, int itsTown) {
            int bond = size;
            owner[bond] = person;
            desk[bond] = office;
            pay[bond] = itsPay;
            years[bond] = itsYears;
            town[bond] = itsTown;
            slot[bond] = office * OF_OFFICE + ofOffice[office];
            bondAt[slot[bond]] = bond;
            bondsOfPerson[person * OF_PERSON + ofPerson[person]] = bond;
            setOfPerson[person] |= 1 << bond;
            slotsOfPerson[person] |= 1 << slot[bond];
            ofOffice[office]++;
            ofPerson[person]++;
            size++;
            return bond;
        }

        int indexOf(int bond) {
            return slot[bond] - desk[bond] * OF_OFFICE;
        }

        int slotsOf(int set) {
            int slots = 0;
            for (int b = 0; b < size; b++) {
                slots |= (set >>> b & 1) << slot[b];
            }
            return slots;
        }

        int setOf(int slots) {
            int set = 0;
            for (int b = 0; b < size; b++) {
                set |= (slots >>> slot[b] & 1) << b;
            }
            return set;
        }

        int setOfPart(int office, int part) {
            return setOf(part << office * OF_OFFICE);
        }
    }

    /** COUPLES and their PAIRS; the two PEOPLE have no BOND in common, so a PAIR is known by its set. */
    private static final class Couples {
        static final int MOST = 2;
        static final int PAIRS = 8;
        int size;
        final int[] first = new int[MOST];
        final int[] second = new int[MOST];
        final int[] pairs = new int[MOST];
        final int[] pairSet = new int[MOST * PAIRS];
        final int[] pairSlots = new int[MOST * PAIRS];

        boolean has(int couple) {
            return couple >= 0 && couple < size;
        }

        int join(int one, int other) {
            first[size] = one;
            second[size] = other;
            size++;
            return size - 1;
        }

        int enlist(int couple, int set, int slots) {
            int at = couple * PAIRS + pairs[couple];
            pairSet[at] = set;
            pairSlots[at] = slots;
            pairs[couple]++;
            return pairs[couple];
        }

        /** Nothing comes behind all PAIRS. NONE: the set is not listed. */
        int rankOf(int couple, int set) {
            if (set == 0) {
                return pairs[couple];
            }
            for (int i = 0; i < pairs[couple]; i++) {
                if (pairSet[couple * PAIRS + i] == set) {
                    return i;
                }
            }
            return NONE;
        }
    }

    /** An OFFICE: its CHOICE, its ORDER, and what it takes of each part offered, with 0 to 3 places more. */
    private static final class Desk {
        static final int MOST = 4;
        static final int LEVELS = 4;
        static final int PARTS = 256;
        static final int TAKEN = 255;
        /** Set in an entry, if the part is in some ALLOWED one: else no FREE matching grows from it. */
        static final int GROWS = 256;
        private final int number;
        private final Bonds bonds;
        private final People people;
        Choice choice = new Choice();
        final int[] table = new int[LEVELS * PARTS];
        private final int[] weight = new int[PARTS];
        private final int[] place = new int[Bonds.OF_OFFICE];
        private boolean ordered;
        private int built;

        Desk(int itsNumber, Bonds allBonds, People allPeople) {
            number = itsNumber;
            bonds = allBonds;
            people = allPeople;
        }

        void forget() {
            ordered = false;
            built = 0;
        }

        int takes(int part) {
            ready(0);
            return table[part & TAKEN] & TAKEN;
        }

        int placeOf(int index) {
            arrange();
            return place[index];
        }

        /** Makes the table of a level, if it is not there. */
        void ready(int level) {
            if ((built >>> level & 1) != 0) {
                return;
            }
            arrange();
            int base = level * PARTS;
            int parts = 1 << bonds.ofOffice[number];
            int limit = choice.mostWith(level);
            for (int part = 0; part < parts; part++) {
                table[base + part] = isAllowed(part, limit) ? part : firstWithin(base, part);
            }
            for (int part = parts - 1; part >= 0; part--) {
                if ((table[base + part] & TAKEN) == part || growsByOne(base, part)) {
                    table[base + part] |= GROWS;
                }
            }
            built |= 1 << level;
        }

        /** Whether one place more than on the level below changes anything. */
        boolean gainsBy(int level) {
            if (!choice.told || choice.mostWith(level) == choice.mostWith(level - 1)) {
                return false;
            }
            ready(level - 1);
            ready(level);
            for (int part = 0; part < 1 << bonds.ofOffice[number]; part++) {
                if (table[level * PARTS + part] != table[(level - 1) * PARTS + part]) {
                    return true;
                }
            }
            return false;
        }

        /** What a part takes that is not ALLOWED itself: the first of what its parts with one BOND less take. */
        private int firstWithin(int base, int part) {
            int first = 0;
            for (int i = 0; i < bonds.ofOffice[number]; i++) {
                if ((part >>> i & 1) != 0) {
                    int taken = table[base + (part ^ 1 << i)] & TAKEN;
                    if (weight[taken] > weight[first]) {
                        first = taken;
                    }
                }
            }
            return first;
        }

        private boolean growsByOne(int base, int part) {
            for (int i = 0; i < bonds.ofOffice[number]; i++) {
                if ((part >>> i & 1) == 0 && (table[base + (part | 1 << i)] & GROWS) != 0) {
                    return true;
                }
            }
            return false;
        }

        private boolean isAllowed(int part, int limit) {
            if (part == 0) {
                return true;
            }
            if (!choice.told || Integer.bitCount(part) > limit) {
                return false;
            }
            int persons = 0;
            int pay = 0;
            for (int i = 0; i < bonds.ofOffice[number]; i++) {
                if ((part >>> i & 1) != 0) {
                    int bond = bondAt(i);
                    int person = 1 << bonds.owner[bond];
                    if ((persons & person) != 0) {
                        return false;
                    }
                    persons |= person;
                    pay += bonds.pay[bond];
                }
            }
            return pay <= choice.dearest && keepsPlaces(persons, limit) && choice.keepsTogether(persons)
                    && choice.keepsApart(persons);
        }

        private boolean keepsPlaces(int persons, int limit) {
            for (int k = 0; k < People.KINDS; k++) {
                int others = Integer.bitCount(persons & ~people.ofKind[k]);
                if (choice.kept[k] > 0 && others > Math.max(0, limit - choice.kept[k])) {
                    return false;
                }
            }
            return true;
        }

        /** Why the BOND at index is not taken of a part, in the numbers of the document. */
        int reason(int part, int index) {
            int taken = takes(part);
            if ((taken >>> index & 1) != 0) {
                return 0;
            }
            int persons = 0;
            int pay = bonds.pay[bondAt(index)];
            int many = 1;
            for (int i = 0; i < bonds.ofOffice[number]; i++) {
                if ((taken >>> i & 1) != 0 && place[i] < place[index]) {
                    persons |= 1 << bonds.owner[bondAt(i)];
                    pay += bonds.pay[bondAt(i)];
                    many++;
                }
            }
            int person = 1 << bonds.owner[bondAt(index)];
            if ((persons & person) != 0) {
                return 1;
            }
            if (many > choice.most) {
                return 2;
            }
            if (pay > choice.dearest) {
                return 3;
            }
            if (!keepsPlaces(persons | person, choice.most)) {
                return 4;
            }
            return choice.keepsApart(persons | person) ? 6 : 5;
        }

        /** Of two parts the one that is first has the greater weight. */
        private void arrange() {
            if (ordered) {
                return;
            }
            int many = bonds.ofOffice[number];
            for (int i = 0; i < many; i++) {
                place[i] = 0;
                for (int j = 0; j < many; j++) {
                    if (i != j && isAhead(bondAt(j), bondAt(i))) {
                        place[i]++;
                    }
                }
            }
            weight[0] = 0;
            for (int part = 1; part < 1 << many; part++) {
                int last = Integer.numberOfTrailingZeros(part);
                weight[part] = weight[part & (part - 1)] | 1 << (Bonds.OF_OFFICE - place[last]);
            }
            ordered = true;
        }

        private boolean isAhead(int bond, int other) {
            for (int i = 0; i < choice.keyCount; i++) {
                int more = valueOf(bond, choice.keyLetters[i]) - valueOf(other, choice.keyLetters[i]);
                if (more != 0) {
                    return (more > 0) == (choice.keyWays[i] > 0);
                }
            }
            return bond < other;
        }

        private int valueOf(int bond, int letter) {
            switch (letter) {
                case 'p': return bonds.pay[bond];
                case 'y': return bonds.years[bond];
                case 't': return bonds.town[bond];
                case 'k': return people.kind[bonds.owner[bond]];
                default: return bonds.owner[bond];
            }
        }

        private int bondAt(int index) {
            return bonds.bondAt[number * Bonds.OF_OFFICE + index];
        }
    }

    /** OFFERS, with LISTS of their own, which may be told otherwise. */
    private static final class Offers {
        private final Bonds bonds;
        private final People people;
        private final Desk[] desks;
        final int[] lists = new int[People.MOST * People.LISTED];
        private final int[] listed = new int[People.MOST];
        private final int[] made = new int[People.MOST];
        int rounds;
        int offered;
        int held;

        Offers(Bonds allBonds, People allPeople, Desk[] allDesks) {
            bonds = allBonds;
            people = allPeople;
            desks = allDesks;
        }

        /** The LISTS as they are, and the tables for the runs. */
        void load() {
            for (int o = 0; o < Desk.MOST; o++) {
                desks[o].ready(0);
            }
            for (int p = 0; p < people.size; p++) {
                listed[p] = people.isSingle(p) ? people.listed[p] : 0;
                System.arraycopy(people.lists, p * People.LISTED, lists, p * People.LISTED, listed[p]);
            }
        }

        void silence(int person) {
            listed[person] = 0;
        }

        void withdraw(int bond) {
            int person = bonds.owner[bond];
            int start = person * People.LISTED;
            int kept = 0;
            for (int i = 0; i < listed[person]; i++) {
                if (lists[start + i] != bond) {
                    lists[start + kept] = lists[start + i];
                    kept++;
                }
            }
            listed[person] = kept;
        }

        /** Whether there is an outcome: what is held then. */
        boolean run() {
            Arrays.fill(made, 0);
            rounds = 0;
            offered = 0;
            held = 0;
            int open = 0;
            // Each round but the last offers a BOND that was not offered, so there are no more rounds than BONDS.
            for (int round = 0; round < Bonds.MOST; round++) {
                int now = nextOffers();
                if (now == 0) {
                    break;
                }
                open |= now;
                rounds++;
                held = holds(open);
            }
            offered = Integer.bitCount(open);
            return !isHeldTwice();
        }

        private int nextOffers() {
            int now = 0;
            for (int p = 0; p < people.size; p++) {
                if ((held & bonds.slotsOfPerson[p]) == 0 && made[p] < listed[p]) {
                    now |= 1 << bonds.slot[lists[p * People.LISTED + made[p]]];
                    made[p]++;
                }
            }
            return now;
        }

        private int holds(int open) {
            int taken = 0;
            for (int o = 0; o < Desk.MOST; o++) {
                int part = desks[o].table[Bonds.partOf(o, open)] & Desk.TAKEN;
                taken |= part << o * Bonds.OF_OFFICE;
            }
            return taken;
        }

        private boolean isHeldTwice() {
            for (int p = 0; p < people.size; p++) {
                if (Integer.bitCount(held & bonds.slotsOfPerson[p]) > 1) {
                    return true;
                }
            }
            return false;
        }

        /** By the true LIST, the best 0; nothing behind what is listed, what is not listed behind nothing. */
        int rankHeldBy(int person) {
            int mine = held & bonds.slotsOfPerson[person];
            if (mine == 0) {
                return people.listed[person];
            }
            int place = people.place[bonds.bondAt[Integer.numberOfTrailingZeros(mine)]];
            return place == NONE ? People.LISTED + 1 : place;
        }

        /** Goes through all rows of the length, ascending, from depth on; the first that gains stays in lists. */
        private boolean gainsByLie(int person, int truly, int length, int depth, int used) {
            if (depth >= length || depth >= People.LISTED) {
                listed[person] = length;
                return run() && rankHeldBy(person) < truly;
            }
            for (int i = 0; i < bonds.ofPerson[person]; i++) {
                if ((used >>> i & 1) == 0) {
                    lists[person * People.LISTED + depth] = bonds.bondsOfPerson[person * Bonds.OF_PERSON + i];
                    if (gainsByLie(person, truly, length, depth + 1, used | 1 << i)) {
                        return true;
                    }
                }
            }
            return false;
        }
    }

    /** What is FREE, and what breaks it, with so many places more for each OFFICE as are set. */
    private static final class Matchings {
        private final Bonds bonds;
        private final People people;
        private final Couples couples;
        private final Desk[] desks;
        final int[] more = new int[Desk.MOST];

        Matchings(Bonds allBonds, People allPeople, Couples allCouples, Desk[] allDesks) {
            bonds = allBonds;
            people = allPeople;
            couples = allCouples;
            desks = allDesks;
        }

        void readyWithoutMore() {
            for (int o = 0; o < Desk.MOST; o++) {
                more[o] = 0;
                desks[o].ready(0);
            }
        }

        /** Whether the code has so many places more in all, each of which changes what its OFFICE takes. */
        boolean readyWithMore(int code, int total) {
            int sum = 0;
            for (int o = 0; o < Desk.MOST; o++) {
                more[o] = code >>> 2 * (Desk.MOST - 1 - o) & 3;
                sum += more[o];
            }
            if (sum != total) {
                return false;
            }
            // A place that changes nothing can be spared: that row, with a place less, has been tried already.
            for (int o = 0; o < Desk.MOST; o++) {
                if (more[o] > 0 && !desks[o].gainsBy(more[o])) {
                    return false;
                }
                desks[o].ready(more[o]);
            }
            return true;
        }

        private int entry(int office, int part) {
            return desks[office].table[more[office] * Desk.PARTS + part];
        }

        boolean mayGrow(int office, int slots) {
            return (entry(office, Bonds.partOf(office, slots)) & Desk.GROWS) != 0;
        }

        boolean isMatching(int set) {
            for (int p = 0; p < people.size; p++) {
                if (Integer.bitCount(set & bonds.setOfPerson[p]) > 1) {
                    return false;
                }
            }
            return true;
        }

        /** Whether a MATCHING is FREE. */
        boolean isFree(int set, int slots) {
            for (int b = 0; b < bonds.size; b++) {
                if ((set >>> b & 1) != 0 && people.place[b] == NONE && people.isSingle(bonds.owner[b])) {
                    return false;
                }
            }
            return isTakenWhole(slots) && couplesHavePairs(set);
        }

        boolean isTakenWhole(int slots) {
            for (int o = 0; o < Desk.MOST; o++) {
                int part = Bonds.partOf(o, slots);
                if ((entry(o, part) & Desk.TAKEN) != part) {
                    return false;
                }
            }
            return true;
        }

        boolean couplesHavePairs(int set) {
            for (int c = 0; c < couples.size; c++) {
                if (rankOfCouple(c, set) == NONE) {
                    return false;
                }
            }
            return true;
        }

        int rankOfCouple(int couple, int set) {
            int both = bonds.setOfPerson[couples.first[couple]] | bonds.setOfPerson[couples.second[couple]];
            return couples.rankOf(couple, set & both);
        }

        int rankOfPerson(int person, int set) {
            int mine = set & bonds.setOfPerson[person];
            return mine == 0 ? people.listed[person] : people.place[Integer.numberOfTrailingZeros(mine)];
        }

        /** The slots of all BONDS that PEOPLE in no COUPLE would rather have. */
        int wanted(int set) {
            int wanted = 0;
            for (int p = 0; p < people.size; p++) {
                if (people.isSingle(p)) {
                    int mine = set & bonds.setOfPerson[p];
                    wanted |= mine == 0 ? people.listSlots[p] : people.aheadSlots[Integer.numberOfTrailingZeros(mine)];
                }
            }
            return wanted;
        }

        /**
         * The first OFFICE with a set that breaks. A set that is first of some BONDS is first of fewer too, as long as
         * it is there; so, if any set breaks, then what is taken of all that is had and wanted does.
         */
        int breakingOffice(int slots, int wanted) {
            for (int o = 0; o < Desk.MOST; o++) {
                int taken = entry(o, Bonds.partOf(o, slots | wanted)) & Desk.TAKEN;
                if (taken != Bonds.partOf(o, slots)) {
                    return o;
                }
            }
            return NONE;
        }

        int leastBreaking(int office, int slots, int wanted) {
            int has = Bonds.partOf(office, slots);
            int reach = has | Bonds.partOf(office, wanted);
            for (int part = 0; part <= reach; part++) {
                if ((part & ~reach) == 0 && part != has && (entry(office, has | part) & Desk.TAKEN) == part) {
                    return part;
                }
            }
            return 0;
        }

        /** The first PAIR with which a COUPLE breaks a FREE matching, or NONE. */
        int breakingPair(int couple, int set, int slots) {
            int rank = rankOfCouple(couple, set);
            int both = bonds.slotsOfPerson[couples.first[couple]] | bonds.slotsOfPerson[couples.second[couple]];
            for (int i = 0; i < rank; i++) {
                if (isPairTaken(couples.pairSlots[couple * Couples.PAIRS + i], slots & ~both)) {
                    return i;
                }
            }
            return NONE;
        }

        private boolean isPairTaken(int pair, int others) {
            for (int o = 0; o < Desk.MOST; o++) {
                int part = Bonds.partOf(o, pair);
                if ((part & ~entry(o, part | Bonds.partOf(o, others))) != 0) {
                    return false;
                }
            }
            return true;
        }

        int breakingCouples(int set, int slots) {
            int breaking = 0;
            for (int c = 0; c < couples.size; c++) {
                if (breakingPair(c, set, slots) != NONE) {
                    breaking++;
                }
            }
            return breaking;
        }

        int breakingBonds(int slots, int wanted) {
            int breaking = 0;
            for (int b = 0; b < bonds.size; b++) {
                int slot = 1 << bonds.slot[b];
                if ((wanted & slot) != 0) {
                    int office = bonds.desk[b];
                    int taken = entry(office, Bonds.partOf(office, slots | slot)) & Desk.TAKEN;
                    breaking += taken >>> bonds.indexOf(b) & 1;
                }
            }
            return breaking;
        }
    }

    /** Goes through all FREE matchings, by bits, ascending. */
    private static final class Walk {
        static final int EVERY = 0;
        static final int NEAREST = 1;
        static final int ANY = 2;
        static final int AT_FIRST = 64;
        private final Bonds bonds;
        private final People people;
        private final Couples couples;
        private final Matchings matchings;
        private final int[] live = new int[Bonds.MOST];
        private final int[] change = new int[Bonds.MOST];
        private int liveCount;
        private int goal;
        int wantedAtFirst;
        int fewest;
        int nearest;
        int[] found = new int[AT_FIRST];
        int foundCount;

        Walk(Bonds allBonds, People allPeople, Couples allCouples, Matchings allMatchings) {
            bonds = allBonds;
            people = allPeople;
            couples = allCouples;
            matchings = allMatchings;
        }

        void prepare(int itsGoal) {
            goal = itsGoal;
            fewest = Bonds.MOST + Couples.MOST + 1;
            nearest = 0;
            foundCount = 0;
            wantedAtFirst = matchings.wanted(0);
            pickLive();
        }

        /** BONDS that may be in a FREE matching, the highest first, so that the sets come ascending. */
        private void pickLive() {
            int ofPairs = 0;
            for (int c = 0; c < couples.size; c++) {
                for (int i = 0; i < couples.pairs[c]; i++) {
                    ofPairs |= couples.pairSet[c * Couples.PAIRS + i];
                }
            }
            liveCount = 0;
            for (int b = bonds.size - 1; b >= 0; b--) {
                int person = bonds.owner[b];
                boolean single = people.isSingle(person);
                if (single ? people.place[b] != NONE : (ofPairs >>> b & 1) != 0) {
                    live[liveCount] = b;
                    liveCount++;
                    change[b] = single ? people.listSlots[person] ^ people.aheadSlots[b] : 0;
                }
            }
        }

        /** Whether it came to the goal ahead of the end. The tables must be ready. */
        private boolean step(int at, int set, int slots, int wanted, int used) {
            if (at >= liveCount) {
                return arrive(set, slots, wanted);
            }
            if (step(at + 1, set, slots, wanted, used)) {
                return true;
            }
            int bond = live[at];
            int person = 1 << bonds.owner[bond];
            int grown = slots | 1 << bonds.slot[bond];
            if ((used & person) != 0 || !matchings.mayGrow(bonds.desk[bond], grown)) {
                return false;
            }
            return step(at + 1, set | 1 << bond, grown, wanted ^ change[bond], used | person);
        }

        private boolean arrive(int set, int slots, int wanted) {
            if (!matchings.isTakenWhole(slots) || !matchings.couplesHavePairs(set)) {
                return false;
            }
            if (goal == NEAREST) {
                return weigh(set, matchings.breakingBonds(slots, wanted) + matchings.breakingCouples(set, slots));
            }
            if (matchings.breakingOffice(slots, wanted) != NONE || matchings.breakingCouples(set, slots) > 0) {
                return false;
            }
            if (goal == EVERY) {
                keep(set);
            }
            return goal == ANY;
        }

        private boolean weigh(int set, int breaking) {
            if (breaking < fewest) {
                fewest = breaking;
                nearest = set;
            }
            return fewest == 0;
        }

        private void keep(int set) {
            if (foundCount >= found.length) {
                found = Arrays.copyOf(found, found.length * 2);
            }
            found[foundCount] = set;
            foundCount++;
        }
    }

    /** ALL, known until something changes, and how they are ranked FOR PEOPLE. */
    private static final class Standing {
        /**
         * The ranks of what all have are fields of one number, one field for each PERSON (for a COUPLE that of its
         * first one). The fifth bit of a field is lent when another's ranks are taken away, and gone if that one's
         * rank was greater: so all ranks are compared at once.
         */
        static final int FIELD = 5;
        static final int RANK = 15;
        static final long LENT = 0x421084210L;
        static final int SUMS = 128;
        private final People people;
        private final Couples couples;
        private final Matchings matchings;
        private final Walk walk;
        boolean known;
        private boolean ranked;
        int[] sets;
        int size;
        private long[] ranks = new long[Walk.AT_FIRST];
        private int[] sorted = new int[Walk.AT_FIRST];
        private int[] distances = new int[Walk.AT_FIRST];
        private int[] queue = new int[Walk.AT_FIRST];
        private int[] covers = new int[Walk.AT_FIRST];
        private int queued;
        private final int[] tally = new int[SUMS];

        Standing(People allPeople, Couples allCouples, Matchings allMatchings, Walk aWalk) {
            people = allPeople;
            couples = allCouples;
            matchings = allMatchings;
            walk = aWalk;
            sets = aWalk.found;
        }

        void know() {
            if (known) {
                return;
            }
            matchings.readyWithoutMore();
            walk.prepare(Walk.EVERY);
            walk.step(0, 0, 0, walk.wantedAtFirst, 0);
            sets = walk.found;
            size = walk.foundCount;
            ranked = false;
            known = true;
        }

        int indexOf(int set) {
            for (int i = 0; i < size; i++) {
                if (sets[i] == set) {
                    return i;
                }
            }
            return NONE;
        }

        /** The one that is better (or worse) than all others, or NONE. */
        int extreme(boolean better) {
            if (size == 0) {
                return NONE;
            }
            sortByRanks();
            int at = better ? 0 : size - 1;
            for (int i = 0; i < size; i++) {
                if (i != at && !isBeyond(at, i, better)) {
                    return NONE;
                }
            }
            return sorted[at];
        }

        /** Whether the one at a place of the sorted ones is better (or worse) than that at another place. */
        private boolean isBeyond(int at, int other, boolean better) {
            long less = ranks[better ? at : other];
            long more = ranks[better ? other : at];
            return less != more && (((more | LENT) - less) & LENT) == LENT;
        }

        /** By the sum of ranks, the least first: who is better than another one always comes ahead of it. */
        private void sortByRanks() {
            if (ranked) {
                return;
            }
            makeRoom();
            Arrays.fill(tally, 0);
            for (int i = 0; i < size; i++) {
                tally[sumOf(ranksOf(sets[i])) + 1]++;
            }
            for (int i = 1; i < SUMS; i++) {
                tally[i] += tally[i - 1];
            }
            for (int i = 0; i < size; i++) {
                long itsRanks = ranksOf(sets[i]);
                int sum = sumOf(itsRanks);
                sorted[tally[sum]] = i;
                ranks[tally[sum]] = itsRanks;
                tally[sum]++;
            }
            ranked = true;
        }

        private void makeRoom() {
            if (ranks.length < size) {
                ranks = new long[sets.length];
                sorted = new int[sets.length];
                distances = new int[sets.length];
                queue = new int[sets.length];
                covers = new int[sets.length];
            }
        }

        private long ranksOf(int set) {
            long all = 0;
            for (int p = 0; p < people.size; p++) {
                if (people.isSingle(p)) {
                    all |= (long) (matchings.rankOfPerson(p, set) & RANK) << FIELD * p;
                }
            }
            for (int c = 0; c < couples.size; c++) {
                all |= (long) (matchings.rankOfCouple(c, set) & RANK) << FIELD * couples.first[c];
            }
            return all;
        }

        private static int sumOf(long all) {
            int sum = 0;
            for (int p = 0; p < People.MOST; p++) {
                sum += (int) (all >>> FIELD * p) & RANK;
            }
            return sum;
        }

        /** The fewest steps between two of ALL, or NONE. */
        int distance(int start, int goal) {
            sortByRanks();
            Arrays.fill(distances, NONE);
            queued = 0;
            int end = placeOf(goal);
            reach(placeOf(start), 0);
            for (int i = 0; i < size && i < queued && distances[end] == NONE; i++) {
                reachNext(queue[i], true);
                reachNext(queue[i], false);
            }
            return distances[end];
        }

        private int placeOf(int index) {
            for (int i = 0; i < size; i++) {
                if (sorted[i] == index) {
                    return i;
                }
            }
            return 0;
        }

        private void reach(int at, int distance) {
            if (distances[at] == NONE && queued < queue.length) {
                distances[at] = distance;
                queue[queued] = at;
                queued++;
            }
        }

        /** What is between two comes ahead of the farther one, by the sorting, and is beyond one that is next. */
        private void reachNext(int at, boolean better) {
            int way = better ? -1 : 1;
            long own = ranks[at];
            int many = 0;
            for (int i = at + way; i >= 0 && i < size; i += way) {
                // The same as isBeyond, without a call: this line is gone through for every two of ALL.
                long lent = better ? (own | LENT) - ranks[i] : (ranks[i] | LENT) - own;
                if ((lent & LENT) == LENT && !isBeyondAny(i, many, better)) {
                    covers[many] = i;
                    many++;
                    reach(i, distances[at] + 1);
                }
            }
        }

        private boolean isBeyondAny(int at, int many, boolean better) {
            for (int i = 0; i < many; i++) {
                if (isBeyond(at, covers[i], better)) {
                    return true;
                }
            }
            return false;
        }

        /** What a PERSON has in the midst, as bits. */
        int midst(int person) {
            Arrays.fill(tally, 0);
            for (int i = 0; i < size; i++) {
                tally[matchings.rankOfPerson(person, sets[i]) & RANK]++;
            }
            int passed = 0;
            for (int rank = 0; rank < people.listed[person]; rank++) {
                passed += tally[rank];
                if (passed > (size - 1) / 2) {
                    return 1 << people.lists[person * People.LISTED + rank];
                }
            }
            return 0;
        }
    }
}
