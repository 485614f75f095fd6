/** A ferry that sails when the ages of all aboard make it; ../shared/DOC.md says what each call answers. */
public final class AgesFerry {
    public static final int BAD = -1, NO = -2, FULL = -3, NONE = -4;

    private static final String FIRST_TEXT =
            "f12,9,1;p0,70,0,0;p0,45,0,1;p1,0,0,1;p0,38,2,1;p2,90,3,0;p3,24,5,2;p3,31,5,2;p0,52,8,0;p0,12,1,0;";
    private static final int MOST_LETTERS = 200, MOST_PERSONS = 9, MOST_TOLD = 5, MOST_UNDONE = 8, MOST_KEPT = 2;
    private static final int SETS = 1 << MOST_PERSONS;
    private static final int OLDEST = 99, LAST_PARTY = 5;
    private static final int BABE = 1, HIRED = 2, SOLDIER = 3;
    private static final int NOT_COME = 0, ON_QUAY = 1, ABOARD = 2, ACROSS = 3, DEAD = 4;

    private final Text text;
    private final Reader reader;
    private final Roll roll;
    private final Roll draft;
    private final State now;
    private final State trial;
    private final Shelf past;
    private final Shelf kept;
    private final Told told;
    private final Sets sets;
    private final Chance chance;

    public AgesFerry() {
        text = new Text();
        reader = new Reader(text);
        roll = new Roll();
        draft = new Roll();
        now = new State(roll);
        trial = new State(roll);
        past = new Shelf(MOST_UNDONE, roll);
        kept = new Shelf(MOST_KEPT, roll);
        told = new Told();
        sets = new Sets(roll, now);
        chance = new Chance(now);
        for (int i = 0; i < FIRST_TEXT.length(); i++) {
            text.add(FIRST_TEXT.charAt(i));
        }
        reader.readInto(roll);
        text.clear();
    }

    // ---- quays

    public int write(int letter) {
        if (letter < 32 || letter > 126) {
            return BAD;
        }
        if (text.length() >= MOST_LETTERS) {
            return FULL;
        }
        text.add(letter);
        return text.length();
    }

    public int wipe() {
        int length = text.length();
        text.clear();
        return length;
    }

    public int fault() {
        return reader.readInto(draft);
    }

    public int lay() {
        // Read into the draft first: a text that can't be laid must leave the roll as it is.
        if (reader.readInto(draft) != NONE || draft.size == 0) {
            return NO;
        }
        reader.readInto(roll);
        now.reset();
        past.clear();
        kept.clear();
        told.clear();
        return roll.size;
    }

    public int person(int p, int what) {
        if (!isPerson(p)) {
            return BAD;
        }
        switch (what) {
            case 0: return roll.kinds.at(p);
            case 1: return roll.ages.at(p);
            case 2: return roll.comings.at(p);
            case 3: return roll.parties.at(p);
            case 4: return now.placeOf(p);
            case 5: return now.trips.at(p);
            default: return BAD;
        }
    }

    public int sum(int what) {
        int over = now.totalOf(now.aboard) - roll.wants;
        int coins = now.costOf(now.aboard);
        switch (what) {
            case 0: return over + roll.wants;
            case 1: return Math.max(0, -over);
            case 2: return Math.max(0, over);
            case 3: return coins == NONE ? 0 : 1;
            case 4: return coins;
            default: return BAD;
        }
    }

    // ---- minutes

    public int pass(int n) {
        if (n < 1 || n > 60) {
            return BAD;
        }
        past.add(now);
        now.minute += n;
        return now.minute;
    }

    public int board(int p) {
        if (!isPerson(p)) {
            return BAD;
        }
        if (now.placeOf(p) != ON_QUAY) {
            return NO;
        }
        past.add(now);
        now.takeOn(p);
        return now.totalOf(now.aboard);
    }

    public int stepOff(int p) {
        if (!isPerson(p)) {
            return BAD;
        }
        if (now.placeOf(p) != ABOARD) {
            return NO;
        }
        past.add(now);
        now.letOff(p);
        return now.totalOf(now.aboard);
    }

    public int die(int p) {
        if (!isPerson(p)) {
            return BAD;
        }
        int place = now.placeOf(p);
        if (place == ACROSS || place == DEAD) {
            return NO;
        }
        past.add(now);
        now.bury(p);
        return place;
    }

    public int sail() {
        int coins = now.costOf(now.aboard);
        if (coins == NONE) {
            return NO;
        }
        past.add(now);
        now.depart(coins);
        return coins;
    }

    public int undo() {
        return past.takeInto(now) ? past.held : NO;
    }

    // ---- sets

    public int best(int what) {
        if (what < 0 || what > 1) {
            return BAD;
        }
        int set = sets.cheapest();
        return what == 0 || set == NONE ? set : now.costOf(set);
    }

    public int waits() {
        return sets.shortestWait();
    }

    public int sailings(int what) {
        if (what < 0 || what > 2) {
            return BAD;
        }
        sets.pack();
        return what == 0 ? sets.packed : what == 1 ? sets.packedCoins : sets.left;
    }

    public int setsFor(int p) {
        if (!isPerson(p)) {
            return BAD;
        }
        return has(now.present(), p) ? sets.manyWith(p) : NO;
    }

    public int oddOnes() {
        return sets.inNone();
    }

    // ---- what was told

    public int tell(int bits, int s) {
        if (bits < 1 || !within(bits, roll.everyone()) || s < 0 || s > 999) {
            return BAD;
        }
        if (told.held >= MOST_TOLD) {
            return FULL;
        }
        told.add(bits, s - roll.agesOf(bits));
        return told.held;
    }

    public int forget() {
        int held = told.held;
        told.clear();
        return held;
    }

    public int liar() {
        int bits = told.isSoIf(0, 0) ? SETS : 0;
        for (int p = 0; p < roll.size; p++) {
            if (couldBeAnother(p)) {
                bits |= 1 << p;
            }
        }
        return bits;
    }

    public int age(int p, int what) {
        if (!isPerson(p) || what < 0 || what > 1) {
            return BAD;
        }
        int found = NONE;
        for (int years = 0; years <= OLDEST; years++) {
            if (told.isSoIf(p, years - roll.ages.at(p)) && (what == 1 || found == NONE)) {
                found = years;
            }
        }
        return found;
    }

    public int sums(int what) {
        if (what < 0 || what > 1) {
            return BAD;
        }
        return what == 0 ? sets.unlikeTotals() : sets.nearestTotal();
    }

    // ---- chance, days

    public int stays(int x, int part) {
        if (x < 0 || x > 10 || part < 0 || part > 1) {
            return BAD;
        }
        chance.reckon(x);
        return part == 0 ? chance.above : chance.below;
    }

    public int day(int z, int n, int what) {
        if (z < 0 || z > 9999 || n < 1 || n > 60 || what < 0 || what > 1) {
            return BAD;
        }
        trial.copyFrom(now);
        for (int k = 0; k < n; k++) {
            trial.liveMinute(draw(z, k));
        }
        return what == 0 ? trial.sailed - now.sailed : trial.spent - now.spent;
    }

    public int keep() {
        if (kept.held >= MOST_KEPT) {
            return FULL;
        }
        kept.add(now);
        return kept.held;
    }

    public int back() {
        if (!kept.takeInto(now)) {
            return NO;
        }
        past.clear();
        return kept.held;
    }

    public int count(int what) {
        switch (what) {
            case 0: return roll.size;
            case 1: return roll.wants;
            case 2: return now.minute;
            case 3: return Integer.bitCount(now.present() & ~now.aboard);
            case 4: return Integer.bitCount(now.aboard);
            case 5: return Integer.bitCount(now.across);
            case 6: return Integer.bitCount(now.dead);
            case 7: return now.sailed;
            case 8: return now.spent;
            case 9: return told.held;
            case 10: return past.held;
            case 11: return kept.held;
            case 12: return text.length();
            default: return BAD;
        }
    }

    private boolean isPerson(int p) {
        return p >= 0 && p < roll.size;
    }

    private boolean couldBeAnother(int p) {
        int own = roll.ages.at(p);
        for (int years = 0; years <= OLDEST; years++) {
            if (years != own && told.isSoIf(p, years - own)) {
                return true;
            }
        }
        return false;
    }

    private static int draw(int z, int k) {
        // The square of some 80 million needs a long.
        long x = 7919L * z + 6151L * k + 1L;
        return (int) ((x * x) % 65521L);
    }

    private static boolean has(int set, int p) {
        return p >= 0 && p < MOST_PERSONS && (set >> p & 1) == 1;
    }

    private static boolean within(int set, int whole) {
        return (set & ~whole) == 0;
    }

    /** Numbers that may be asked for at any index: outside it answers 0 and takes nothing. */
    private static final class Row {
        private final int[] cells;

        Row(int length) {
            cells = new int[length < 0 ? 0 : length];
        }

        int at(int i) {
            return i >= 0 && i < cells.length ? cells[i] : 0;
        }

        void put(int i, int value) {
            if (i >= 0 && i < cells.length) {
                cells[i] = value;
            }
        }

        void fill(int value) {
            for (int i = 0; i < cells.length; i++) {
                cells[i] = value;
            }
        }
    }

    /** The letters that were written. */
    private static final class Text {
        private final Row letters = new Row(MOST_LETTERS);
        private int length;

        int length() {
            return length;
        }

        void clear() {
            length = 0;
        }

        void add(int letter) {
            if (length < MOST_LETTERS) {
                letters.put(length, letter);
                length++;
            }
        }

        /** The letter there; 0, which is none that can be written, behind the last one. */
        int letterAt(int place) {
            return place < length ? letters.at(place) : 0;
        }
    }

    /** Reads a text item by item. */
    private static final class Reader {
        private static final int FERRY_NUMBERS = 3, PERSON_NUMBERS = 4;

        private final Text text;
        private final Row numbers = new Row(PERSON_NUMBERS);
        private int place;

        Reader(Text text) {
            this.text = text;
        }

        /** Fills the roll with what the text says: where the first fault is, or NONE. */
        int readInto(Roll roll) {
            roll.clear();
            place = 0;
            // No item is shorter than a letter, so there are no more items than letters.
            for (int items = 0; items < MOST_LETTERS && place < text.length(); items++) {
                int start = place;
                if (!readItem(roll)) {
                    return start;
                }
            }
            return NONE;
        }

        private boolean readItem(Roll roll) {
            int letter = text.letterAt(place);
            place++;
            if (letter == 'f') {
                return readNumbers(FERRY_NUMBERS)
                        && roll.setFerry(numbers.at(0), numbers.at(1), numbers.at(2));
            }
            if (letter == 'p') {
                return readNumbers(PERSON_NUMBERS)
                        && roll.addPerson(numbers.at(0), numbers.at(1), numbers.at(2), numbers.at(3));
            }
            return false;
        }

        private boolean readNumbers(int many) {
            for (int i = 0; i < many; i++) {
                int number = readNumber();
                int ending = i == many - 1 ? ';' : ',';
                if (number == NONE || text.letterAt(place) != ending) {
                    return false;
                }
                place++;
                numbers.put(i, number);
            }
            return true;
        }

        private int readNumber() {
            int first = text.letterAt(place);
            if (!isFigure(first)) {
                return NONE;
            }
            place++;
            int second = text.letterAt(place);
            if (!isFigure(second)) {
                return first - '0';
            }
            place++;
            return 10 * (first - '0') + second - '0';
        }

        private static boolean isFigure(int letter) {
            return letter >= '0' && letter <= '9';
        }
    }

    /** What was laid: the ferry and the persons as the text tells them. */
    private static final class Roll {
        final Row kinds = new Row(MOST_PERSONS);
        final Row ages = new Row(MOST_PERSONS);
        final Row comings = new Row(MOST_PERSONS);
        final Row parties = new Row(MOST_PERSONS);
        final Row members = new Row(LAST_PARTY + 1);
        int soldiers;
        int size;
        int wants;
        int bears;
        int price;

        void clear() {
            members.fill(0);
            soldiers = 0;
            size = 0;
            setFerry(10, 9, 1);
        }

        boolean setFerry(int tens, int more, int coins) {
            if (tens < 1 || coins > 9) {
                return false;
            }
            wants = 10 * tens;
            bears = more;
            price = coins;
            return true;
        }

        boolean addPerson(int kind, int years, int minute, int party) {
            if (size >= MOST_PERSONS || kind > SOLDIER || party > LAST_PARTY) {
                return false;
            }
            kinds.put(size, kind);
            ages.put(size, years);
            comings.put(size, minute);
            parties.put(size, party);
            members.put(party, members.at(party) | 1 << size);
            if (kind == SOLDIER) {
                soldiers |= 1 << size;
            }
            size++;
            return true;
        }

        int everyone() {
            return (1 << size) - 1;
        }

        int agesOf(int set) {
            int together = 0;
            for (int p = 0; p < size; p++) {
                together += has(set, p) ? ages.at(p) : 0;
            }
            return together;
        }
    }

    /** Who is where at which minute, and what came of it; what a set counts and costs as things stand. */
    private static final class State {
        private final Roll roll;
        final Row trips = new Row(MOST_PERSONS);
        int minute;
        int aboard;
        int across;
        int dead;
        int sailed;
        int spent;

        State(Roll roll) {
            this.roll = roll;
        }

        void reset() {
            trips.fill(0);
            minute = 0;
            aboard = 0;
            across = 0;
            dead = 0;
            sailed = 0;
            spent = 0;
        }

        void copyFrom(State other) {
            for (int p = 0; p < MOST_PERSONS; p++) {
                trips.put(p, other.trips.at(p));
            }
            minute = other.minute;
            aboard = other.aboard;
            across = other.across;
            dead = other.dead;
            sailed = other.sailed;
            spent = other.spent;
        }

        /** Those neither across nor dead, come or not. */
        int remaining() {
            return roll.everyone() & ~across & ~dead;
        }

        /** Those on the quay and aboard. */
        int present() {
            int come = 0;
            for (int p = 0; p < roll.size; p++) {
                if (roll.comings.at(p) <= minute) {
                    come |= 1 << p;
                }
            }
            return come & remaining();
        }

        int placeOf(int p) {
            if (has(dead, p)) {
                return DEAD;
            }
            if (has(across, p)) {
                return ACROSS;
            }
            if (has(aboard, p)) {
                return ABOARD;
            }
            return roll.comings.at(p) <= minute ? ON_QUAY : NOT_COME;
        }

        int totalOf(int set) {
            boolean armed = Integer.bitCount(set & roll.soldiers) >= 2;
            int total = 0;
            for (int p = 0; p < roll.size; p++) {
                if (has(set, p)) {
                    total += yearsOf(p, armed);
                }
            }
            return total;
        }

        private int yearsOf(int p, boolean armed) {
            int years = roll.ages.at(p);
            switch (roll.kinds.at(p)) {
                case BABE: return 1;
                case HIRED: return Math.max(0, years - 10 * trips.at(p));
                case SOLDIER: return armed ? years : 0;
                default: return years;
            }
        }

        /** The coins that a sailing of the set costs, NONE if it does not sail. */
        int costOf(int set) {
            if (!partsNoParty(set)) {
                return NONE;
            }
            int over = totalOf(set) - roll.wants;
            return over < 0 || over > roll.bears ? NONE : over * roll.price;
        }

        private boolean partsNoParty(int set) {
            for (int party = 1; party <= LAST_PARTY; party++) {
                int company = roll.members.at(party) & remaining();
                int going = company & set;
                if (going != 0 && going != company) {
                    return false;
                }
            }
            return true;
        }

        void takeOn(int p) {
            aboard |= 1 << p;
        }

        void letOff(int p) {
            aboard &= ~(1 << p);
        }

        void bury(int p) {
            letOff(p);
            dead |= 1 << p;
        }

        void depart(int coins) {
            for (int p = 0; p < roll.size; p++) {
                if (has(aboard, p)) {
                    trips.put(p, trips.at(p) + 1);
                    across |= roll.kinds.at(p) == HIRED ? 0 : 1 << p;
                }
            }
            aboard = 0;
            sailed++;
            spent += coins;
        }

        /** A minute of a day in which nobody but the draw says who moves. */
        void liveMinute(int draw) {
            if (roll.size > 0) {
                move(draw % roll.size, draw / 16 % 2 == 0);
            }
            int coins = costOf(aboard);
            if (coins != NONE) {
                depart(coins);
            }
            minute++;
        }

        private void move(int p, boolean mayLeave) {
            int place = placeOf(p);
            if (place == ON_QUAY) {
                takeOn(p);
            } else if (place == ABOARD && mayLeave) {
                letOff(p);
            }
        }
    }

    /** States that can be come back to, the latest first; the oldest goes when there is no room. */
    private static final class Shelf {
        private final State[] states;
        int held;

        Shelf(int room, Roll roll) {
            states = new State[room < 0 ? 0 : room];
            for (int i = 0; i < states.length; i++) {
                states[i] = new State(roll);
            }
        }

        void clear() {
            held = 0;
        }

        void add(State state) {
            if (held >= states.length) {
                dropOldest();
            }
            State top = at(held);
            if (top != null) {
                top.copyFrom(state);
                held++;
            }
        }

        boolean takeInto(State state) {
            State top = at(held - 1);
            if (top == null) {
                return false;
            }
            state.copyFrom(top);
            held--;
            return true;
        }

        private void dropOldest() {
            // The oldest one's object goes to the free end, so that no new one has to be made.
            State oldest = at(0);
            for (int i = 1; i < states.length; i++) {
                states[i - 1] = states[i];
            }
            if (held > 0 && oldest != null && states.length > 0) {
                states[states.length - 1] = oldest;
                held--;
            }
        }

        private State at(int i) {
            return i >= 0 && i < states.length ? states[i] : null;
        }
    }

    /** What was told of ages, each as how many years the ages as they are fall short of it. */
    private static final class Told {
        private final Row sets = new Row(MOST_TOLD);
        private final Row gaps = new Row(MOST_TOLD);
        int held;

        void clear() {
            held = 0;
        }

        void add(int set, int gap) {
            if (held < MOST_TOLD) {
                sets.put(held, set);
                gaps.put(held, gap);
                held++;
            }
        }

        /** Whether all would be so, were this person so many years older. */
        boolean isSoIf(int p, int older) {
            for (int i = 0; i < held; i++) {
                if (gaps.at(i) != (has(sets.at(i), p) ? older : 0)) {
                    return false;
                }
            }
            return true;
        }
    }

    /** Questions about all the sets that could be. */
    private static final class Sets {
        private final Roll roll;
        private final State now;
        private final Row costs = new Row(SETS);
        private final Row most = new Row(SETS);
        private final Row least = new Row(SETS);
        private final Row seen = new Row(MOST_PERSONS * OLDEST + 1);
        int packed;
        int packedCoins;
        int left;

        Sets(Roll roll, State now) {
            this.roll = roll;
            this.now = now;
        }

        private void costAll(int whole) {
            for (int set = 0; set < SETS; set++) {
                costs.put(set, within(set, whole) ? now.costOf(set) : NONE);
            }
        }

        int cheapest() {
            costAll(now.present());
            int found = NONE;
            for (int set = 1; set < SETS; set++) {
                if (costs.at(set) != NONE && (found == NONE || isBetter(set, found))) {
                    found = set;
                }
            }
            return found;
        }

        private boolean isBetter(int set, int other) {
            if (costs.at(set) != costs.at(other)) {
                return costs.at(set) < costs.at(other);
            }
            return Integer.bitCount(set) < Integer.bitCount(other);
        }

        int shortestWait() {
            costAll(now.remaining());
            int shortest = NONE;
            for (int set = 1; set < SETS; set++) {
                if (costs.at(set) != NONE) {
                    int wait = waitFor(set);
                    shortest = shortest == NONE ? wait : Math.min(shortest, wait);
                }
            }
            return shortest;
        }

        private int waitFor(int set) {
            int wait = 0;
            for (int p = 0; p < roll.size; p++) {
                if (has(set, p)) {
                    wait = Math.max(wait, roll.comings.at(p) - now.minute);
                }
            }
            return wait;
        }

        int manyWith(int p) {
            costAll(now.present());
            int many = 0;
            for (int set = 1; set < SETS; set++) {
                if (has(set, p) && costs.at(set) != NONE) {
                    many++;
                }
            }
            return many;
        }

        int inNone() {
            int odd = now.present();
            costAll(odd);
            for (int set = 1; set < SETS; set++) {
                if (costs.at(set) != NONE) {
                    odd &= ~set;
                }
            }
            return odd;
        }

        /** Finds packed, packedCoins and left: the most sets apart, their fewest coins, who is in none. */
        void pack() {
            int whole = now.remaining();
            costAll(whole);
            packed = 0;
            packedCoins = 0;
            left = whole;
            most.put(0, 0);
            least.put(0, 0);
            for (int used = 1; used < SETS; used++) {
                packExactly(used);
                if (most.at(used) != NONE) {
                    compareWay(used, whole & ~used);
                }
            }
        }

        /** The most sets that take just these persons, and the fewest coins for so many. */
        private void packExactly(int used) {
            int lowest = used & -used;
            most.put(used, NONE);
            least.put(used, 0);
            int set = used;
            // Each turn goes to the next lower part of the same persons, of which there are fewer than SETS.
            for (int turn = 0; turn < SETS && set > 0; turn++) {
                int others = used & ~set;
                // One of the sets has the lowest person; to take that one first misses no way.
                if ((set & lowest) != 0 && costs.at(set) != NONE && most.at(others) != NONE) {
                    int many = most.at(others) + 1;
                    int coins = least.at(others) + costs.at(set);
                    if (many > most.at(used) || many == most.at(used) && coins < least.at(used)) {
                        most.put(used, many);
                        least.put(used, coins);
                    }
                }
                set = (set - 1) & used;
            }
        }

        private void compareWay(int used, int unused) {
            int many = most.at(used);
            int coins = least.at(used);
            boolean better = many != packed ? many > packed
                    : coins != packedCoins ? coins < packedCoins : unused < left;
            if (better) {
                packed = many;
                packedCoins = coins;
                left = unused;
            }
        }

        int unlikeTotals() {
            int whole = now.present();
            int unlike = 0;
            seen.fill(0);
            for (int set = 1; set < SETS; set++) {
                if (within(set, whole)) {
                    int total = now.totalOf(set);
                    unlike += 1 - seen.at(total);
                    seen.put(total, 1);
                }
            }
            return unlike;
        }

        int nearestTotal() {
            int whole = now.present();
            int nearest = NONE;
            for (int set = 1; set < SETS; set++) {
                if (within(set, whole)) {
                    int total = now.totalOf(set);
                    nearest = nearest == NONE ? total : nearer(total, nearest);
                }
            }
            return nearest;
        }

        private int nearer(int one, int other) {
            int oneAway = Math.abs(one - roll.wants);
            int otherAway = Math.abs(other - roll.wants);
            if (oneAway == otherAway) {
                return Math.min(one, other);
            }
            return oneAway < otherAway ? one : other;
        }
    }

    /** The chance that those who stay can sail, as a fraction in lowest terms. */
    private static final class Chance {
        private static final int TENTHS = 10, MOST_STEPS = 100;

        private final State now;
        private final Row able = new Row(SETS);
        int above;
        int below;

        Chance(State now) {
            this.now = now;
        }

        void reckon(int tenths) {
            int whole = now.present();
            int many = Integer.bitCount(whole);
            long ways = 0;
            for (int set = 0; set < SETS; set++) {
                able.put(set, within(set, whole) && isAble(set) ? 1 : 0);
                if (able.at(set) == 1) {
                    int stayers = Integer.bitCount(set);
                    ways += power(tenths, stayers) * power(TENTHS - tenths, many - stayers);
                }
            }
            reduce(ways, power(TENTHS, many));
        }

        /** Whether some of the set sail; all smaller sets have been looked at. */
        private boolean isAble(int set) {
            if (now.costOf(set) != NONE) {
                return true;
            }
            for (int p = 0; p < MOST_PERSONS; p++) {
                if (has(set, p) && able.at(set & ~(1 << p)) == 1) {
                    return true;
                }
            }
            return false;
        }

        private void reduce(long ways, long all) {
            long divisor = commonDivisor(ways, all);
            if (divisor > 0) {
                above = (int) (ways / divisor);
                below = (int) (all / divisor);
            }
        }

        private static long power(int base, int times) {
            long product = 1;
            for (int i = 0; i < times; i++) {
                product *= base;
            }
            return product;
        }

        private static long commonDivisor(long one, long other) {
            long a = one;
            long b = other;
            // Euclid's steps for numbers below 2 to the 31st are fewer than 50.
            for (int i = 0; i < MOST_STEPS && b > 0; i++) {
                long rest = a % b;
                a = b;
                b = rest;
            }
            return a;
        }
    }
}
