import java.util.Arrays;

/** Who lives where in a land, on any day, as it was known on any other. */
public final class Residentroll {
    /** There is none. */
    public static final int NONE = -1;
    /** It may not be seen. */
    public static final int HIDDEN = -2;
    /** What a PERSON is. */
    public static final int UNBORN = 0, LIVING = 1, DEAD = 2, DOUBLE = 3;
    /** Kinds of ACTS. */
    public static final int BIRTH = 0, MOVE = 1, NAMING = 2, BOND = 3, PARTING = 4, DEATH = 5, ADOPTION = 6, JOINING = 7, STRIKING = 8;
    /** Kinds of ROLLS. */
    public static final int ALL = 0, VOTES = 1, SCHOOL = 2, TOWN = 3;
    /** Messages. */
    public static final int COMES = 1, GOES = 2, MOVED = 3;

    private static final int MOST_CALLS = 512;
    private static final int MOST_ACTS = 150;
    private static final int MOST_PERSONS = 24;
    private static final int MOST_NUMBERS = 60;
    private static final int MOST_ROLLS = 5;
    private static final int DWELLINGS = 16;
    private static final int OFFICES = 4;
    private static final int DWELLINGS_OF_AN_OFFICE = 4;
    private static final int NAMES = 1000;
    private static final int PURPOSES = 4;

    private static final int FIRST_DAY = 10000;
    private static final int LAST_DAY = 30000;
    private static final int MOST_DAYS_TO_PASS = 5000;
    private static final int MOST_DAYS_OF_MONEY = 60;
    private static final int DAYS_OF_A_YEAR = 365;
    private static final int AGE_OF_VOTE = 18;
    private static final int FIRST_AGE_OF_SCHOOL = 6;
    private static final int LAST_AGE_OF_SCHOOL = 15;
    private static final int AGE_OFF_HOUSEHOLD = 18;

    private static final int IS = 0, IS_IN = 1, IS_NAMED = 2, HAS_PARTNER = 3, HAS_MOTHER = 4, HAS_AGE = 5, HAS_HOUSEHOLD = 6;
    private static final int ACT_KIND = 0, ACT_TOLD = 1, ACT_SO = 2, ACT_PERSON = 3, ACT_STRUCK = 4;

    private static final int BORN_LIKE = 5;
    private static final int BORN_NEAR = 2;
    private static final int NEAR_DAYS = 31;
    private static final int NAMED_LIKE = 3;
    private static final int HOUSED_LIKE = 2;
    private static final int LIKE_A_DOUBLE = 8;

    private static final int FIRST_SERIAL = 1001;
    private static final int LAST_SERIAL = 9999;
    private static final int LEAST_NUMBER = 10000;
    private static final int GREATEST_NUMBER = 99999;
    private static final int NO_CHECK = 10;

    private final Acts acts = new Acts();
    private final Land kept = new Land();
    private final Land asked = new Land();
    private final Land compared = new Land();
    private final Numbers numbers = new Numbers();
    private final Roll[] rolls = new Roll[MOST_ROLLS];
    private final boolean[] barred = new boolean[MOST_PERSONS];
    private final int[] lookedFor = new int[MOST_PERSONS];
    private int today = FIRST_DAY;
    private int persons;
    private int rollsBegun;

    public Residentroll() {
        kept.find(acts, today, today);
    }

    // ---- days, ACTS

    public int pass(int days) throws IllegalArgumentException, IllegalStateException {
        requireWithin(days, 1, MOST_DAYS_TO_PASS);
        if (today + days > LAST_DAY) {
            throw new IllegalStateException("the day would be above the last one");
        }
        today += days;
        kept.goOn(today);
        return today;
    }

    public int birth(int so, int mother, int dwelling, int name) throws IndexOutOfBoundsException, IllegalArgumentException, IllegalStateException {
        requirePersonOrNone(mother);
        requireDwelling(dwelling);
        requireDay(so);
        requireWithin(name, 0, NAMES - 1);
        if (persons >= MOST_PERSONS) {
            throw new IllegalStateException("there is no PERSON left");
        }
        requireActLeft();
        requireNumberLeft();
        int person = persons;
        persons++;
        numbers.give(person);
        Act act = new Act(BIRTH, today, so, person, mother);
        act.dwelling = dwelling;
        act.name = name;
        tell(act);
        return person;
    }

    public int move(int person, int so, int dwelling) throws IndexOutOfBoundsException, IllegalArgumentException, IllegalStateException {
        requirePerson(person);
        requireDwelling(dwelling);
        requireDay(so);
        requireActLeft();
        Act act = new Act(MOVE, today, so, person, NONE);
        act.dwelling = dwelling;
        return tell(act);
    }

    public int naming(int person, int so, int name) throws IndexOutOfBoundsException, IllegalArgumentException, IllegalStateException {
        requirePerson(person);
        requireDay(so);
        requireWithin(name, 0, NAMES - 1);
        requireActLeft();
        Act act = new Act(NAMING, today, so, person, NONE);
        act.name = name;
        return tell(act);
    }

    public int tie(int kind, int person, int other, int so) throws IndexOutOfBoundsException, IllegalArgumentException, IllegalStateException {
        requirePerson(person);
        requirePerson(other);
        if (kind != BOND && kind != PARTING && kind != ADOPTION) {
            throw new IllegalArgumentException("no kind of tie");
        }
        requireDay(so);
        requireUnlike(person, other);
        requireActLeft();
        return tell(new Act(kind, today, so, person, other));
    }

    public int death(int person, int so) throws IndexOutOfBoundsException, IllegalArgumentException, IllegalStateException {
        requirePerson(person);
        requireDay(so);
        requireActLeft();
        return tell(new Act(DEATH, today, so, person, NONE));
    }

    public int join(int person, int other) throws IndexOutOfBoundsException, IllegalArgumentException, IllegalStateException {
        requirePerson(person);
        requirePerson(other);
        if (other <= person) {
            throw new IllegalArgumentException("the double has no higher number");
        }
        requireActLeft();
        return tell(new Act(JOINING, today, NONE, person, other));
    }

    public int strike(int act) throws IndexOutOfBoundsException, IllegalStateException {
        Act struck = requireAct(act);
        if (struck.kind == STRIKING || struck.struckBy != null) {
            throw new IllegalStateException("the ACT is a STRIKING, or struck");
        }
        requireActLeft();
        Act striking = new Act(STRIKING, today, NONE, NONE, NONE);
        struck.struckBy = striking;
        return tell(striking);
    }

    // ---- what is asked of ACTS and days

    public int day() {
        return today;
    }

    public int actOf(int act, int what) throws IndexOutOfBoundsException, IllegalArgumentException {
        Act asks = requireAct(act);
        requireWithin(what, ACT_KIND, ACT_STRUCK);
        switch (what) {
            case ACT_KIND:
                return asks.kind;
            case ACT_TOLD:
                return asks.told;
            case ACT_SO:
                return asks.so;
            case ACT_PERSON:
                return asks.person;
            default:
                return asks.struckBy == null ? NONE : asks.struckBy.place;
        }
    }

    public int asOf(int person, int what, int s, int k) throws IndexOutOfBoundsException, IllegalArgumentException {
        requirePerson(person);
        requireWithin(what, IS, HAS_HOUSEHOLD);
        requireDay(s);
        requireDay(k);
        asked.find(acts, s, k);
        return asked.tellOf(person, what);
    }

    public int now(int person, int what) throws IndexOutOfBoundsException, IllegalArgumentException {
        requirePerson(person);
        requireWithin(what, IS, HAS_HOUSEHOLD);
        return kept.tellOf(person, what);
    }

    public int households(int dwelling, int s, int k) throws IndexOutOfBoundsException, IllegalArgumentException {
        requireDwelling(dwelling);
        requireDay(s);
        requireDay(k);
        asked.find(acts, s, k);
        return asked.countHouseholds(dwelling);
    }

    public int money(int office, int from, int many, int k) throws IndexOutOfBoundsException, IllegalArgumentException {
        requireOffice(office);
        requireDay(from);
        requireWithin(many, 1, MOST_DAYS_OF_MONEY);
        requireDay(from + many - 1);
        requireDay(k);
        asked.begin(acts, k);
        int sum = 0;
        for (int i = 0; i < many; i++) {
            asked.goOn(from + i);
            sum += asked.countLivingUnder(office);
        }
        return sum;
    }

    public int changed(int s, int k, int later) throws IllegalArgumentException {
        requireDay(s);
        requireDay(k);
        requireDay(later);
        asked.find(acts, s, k);
        compared.find(acts, s, later);
        int many = 0;
        for (int person = 0; person < persons; person++) {
            if (!asked.isSameIn(compared, person)) {
                many++;
            }
        }
        return many;
    }

    public int origin(int person, int asker) throws IndexOutOfBoundsException {
        requirePerson(person);
        requirePersonOrNone(asker);
        return kept.originFor(person, asker);
    }

    public int likeness(int person, int other) throws IndexOutOfBoundsException, IllegalArgumentException {
        requirePerson(person);
        requirePerson(other);
        requireUnlike(person, other);
        return kept.countLikeness(person, other);
    }

    public int doubleOf(int person) throws IndexOutOfBoundsException {
        requirePerson(person);
        for (int other = 0; other < persons; other++) {
            if (other != person && kept.countLikeness(person, other) >= LIKE_A_DOUBLE) {
                return other;
            }
        }
        return NONE;
    }

    // ---- numbers

    public int renumber(int person) throws IndexOutOfBoundsException, IllegalStateException {
        requirePerson(person);
        requireNumberLeft();
        return numbers.give(person);
    }

    public int number(int person) throws IndexOutOfBoundsException {
        requirePerson(person);
        return numbers.lastOf(person);
    }

    public int bearer(int number) throws IllegalArgumentException {
        requireWithin(number, LEAST_NUMBER, GREATEST_NUMBER);
        if (!Numbers.isOfSerial(number)) {
            throw new IllegalArgumentException("no number of a serial");
        }
        return numbers.personOf(number);
    }

    // ---- ROLLS

    public int roll(int kind, int office) throws IndexOutOfBoundsException, IllegalArgumentException, IllegalStateException {
        requireOffice(office);
        requireWithin(kind, ALL, TOWN);
        int begun = rollsBegun;
        if (begun < 0 || begun >= rolls.length) {
            throw new IllegalStateException("there is no ROLL left");
        }
        rolls[begun] = new Roll(kind, office);
        rollsBegun++;
        return begun;
    }

    public int deliver(int roll) throws IndexOutOfBoundsException {
        Roll receiver = requireRoll(roll);
        int sent = 0;
        for (int person = 0; person < persons; person++) {
            int due = dueTo(receiver, person);
            if (due != NONE) {
                receiver.take(due);
                sent++;
            }
        }
        return sent;
    }

    public int owes(int roll) throws IndexOutOfBoundsException {
        Roll receiver = requireRoll(roll);
        int owed = 0;
        for (int person = 0; person < persons; person++) {
            if (dueTo(receiver, person) != NONE) {
                owed++;
            }
        }
        return owed;
    }

    public int message(int roll, int place) throws IndexOutOfBoundsException {
        Roll receiver = requireRoll(roll);
        if (place < 0 || place >= receiver.got) {
            throw new IndexOutOfBoundsException("no such place");
        }
        return at(receiver.messages, place);
    }

    public int holds(int roll, int person) throws IndexOutOfBoundsException {
        Roll receiver = requireRoll(roll);
        requirePerson(person);
        return at(receiver.dwellings, person);
    }

    public int holdsAnew(int roll, int person) throws IndexOutOfBoundsException {
        Roll receiver = requireRoll(roll);
        requirePerson(person);
        return receiver.findAnew(person);
    }

    // ---- bars

    public boolean bar(int person, boolean is) throws IndexOutOfBoundsException {
        requirePerson(person);
        boolean was = isSet(barred, person);
        set(barred, person, is);
        return was;
    }

    public int look(int purpose, int person) throws IndexOutOfBoundsException, IllegalArgumentException {
        requirePerson(person);
        requireWithin(purpose, 0, PURPOSES - 1);
        put(lookedFor, person, at(lookedFor, person) + 1);
        if (purpose != 0 && isSet(barred, person)) {
            return HIDDEN;
        }
        return kept.dwellingOf(person);
    }

    public int looks(int person) throws IndexOutOfBoundsException {
        requirePerson(person);
        return at(lookedFor, person);
    }

    // What a call asks for before it does anything.

    private void requirePerson(int person) {
        if (person < 0 || person >= persons) {
            throw new IndexOutOfBoundsException("no such PERSON");
        }
    }

    private void requirePersonOrNone(int person) {
        if (person != NONE) {
            requirePerson(person);
        }
    }

    private static void requireDwelling(int dwelling) {
        if (dwelling < 0 || dwelling >= DWELLINGS) {
            throw new IndexOutOfBoundsException("no such DWELLING");
        }
    }

    private static void requireOffice(int office) {
        if (office < 0 || office >= OFFICES) {
            throw new IndexOutOfBoundsException("no such OFFICE");
        }
    }

    private Act requireAct(int place) {
        Act act = acts.find(place);
        if (act == null) {
            throw new IndexOutOfBoundsException("no such ACT");
        }
        return act;
    }

    private Roll requireRoll(int place) {
        Roll roll = place >= 0 && place < rolls.length ? rolls[place] : null;
        if (roll == null) {
            throw new IndexOutOfBoundsException("no such ROLL");
        }
        return roll;
    }

    private static void requireWithin(int value, int least, int most) {
        if (value < least || value > most) {
            throw new IllegalArgumentException("out of range");
        }
    }

    private void requireDay(int asks) {
        requireWithin(asks, 0, today);
    }

    private static void requireUnlike(int person, int other) {
        if (person == other) {
            throw new IllegalArgumentException("both are the same");
        }
    }

    private void requireActLeft() {
        if (acts.told >= MOST_ACTS) {
            throw new IllegalStateException("there is no ACT left");
        }
    }

    private void requireNumberLeft() {
        if (numbers.given >= MOST_NUMBERS) {
            throw new IllegalStateException("there is no number left");
        }
    }

    // Rows, whose index is looked at before it is used: what is of nobody is NONE.

    private static int at(int[] row, int index) {
        return index >= 0 && index < row.length ? row[index] : NONE;
    }

    private static void put(int[] row, int index, int value) {
        if (index >= 0 && index < row.length) {
            row[index] = value;
        }
    }

    private static boolean isSet(boolean[] row, int index) {
        return index >= 0 && index < row.length && row[index];
    }

    private static void set(boolean[] row, int index, boolean is) {
        if (index >= 0 && index < row.length) {
            row[index] = is;
        }
    }

    /** Keeps an ACT, and what is now with it; returns the ACT's number. */
    private int tell(Act act) {
        acts.add(act);
        // An ACT that is so after all the others changes nothing of what they did.
        if (act.so != NONE && act.after == null) {
            kept.happen(act);
        } else {
            kept.begin(acts, today);
            kept.goOn(today);
        }
        return act.place;
    }

    /** The message that a ROLL is owed of a PERSON now, NONE without. */
    private int dueTo(Roll receiver, int person) {
        int had = at(receiver.dwellings, person);
        int has = isOfKind(receiver, person) ? kept.dwellingOf(person) : NONE;
        if (has == had) {
            return NONE;
        }
        if (had == NONE) {
            return Roll.write(person, has, COMES);
        }
        return has == NONE ? Roll.write(person, 0, GOES) : Roll.write(person, has, MOVED);
    }

    private boolean isOfKind(Roll receiver, int person) {
        if (!kept.isLiving(person)) {
            return false;
        }
        int age = kept.ageOf(person);
        switch (receiver.kind) {
            case VOTES:
                return age >= AGE_OF_VOTE;
            case SCHOOL:
                return age >= FIRST_AGE_OF_SCHOOL && age <= LAST_AGE_OF_SCHOOL;
            case TOWN:
                return officeOf(kept.dwellingOf(person)) == receiver.office;
            default:
                return true;
        }
    }

    private static int officeOf(int dwelling) {
        return Math.floorDiv(dwelling, DWELLINGS_OF_AN_OFFICE);
    }

    /** What was told; who is meant by it depends on the JOININGS that are known. */
    private static final class Act {
        private final int kind;
        private final int told;
        private final int so;
        private final int person;
        private final int other;
        private int dwelling = NONE;
        private int name = NONE;
        private int place = NONE;
        private Act struckBy;
        private Act after;

        private Act(int kind, int told, int so, int person, int other) {
            this.kind = kind;
            this.told = told;
            this.so = so;
            this.person = person;
            this.other = other;
        }

        private boolean isKnownOn(int k) {
            return told <= k && (struckBy == null || struckBy.told > k);
        }
    }

    /** All ACTS, by their numbers, and those with a day in a chain by the days on which they were so. */
    private static final class Acts {
        private final Act[] rows = new Act[MOST_ACTS];
        private int told;
        private Act earliest;

        private Act find(int place) {
            return place >= 0 && place < rows.length ? rows[place] : null;
        }

        private void add(Act act) {
            if (told < 0 || told >= rows.length) {
                return;
            }
            rows[told] = act;
            act.place = told;
            told++;
            if (act.so != NONE) {
                chain(act);
            }
        }

        private void chain(Act act) {
            Act before = null;
            for (Act next = earliest; next != null && next.so <= act.so; next = next.after) {
                before = next;
            }
            if (before == null) {
                act.after = earliest;
                earliest = act;
            } else {
                act.after = before.after;
                before.after = act;
            }
        }
    }

    /** What is so of all PERSONS on a day, as known on a day. */
    private static final class Land {
        private final int[] meant = new int[MOST_PERSONS];
        private final int[] being = new int[MOST_PERSONS];
        private final int[] dwellings = new int[MOST_PERSONS];
        private final int[] names = new int[MOST_PERSONS];
        private final int[] partners = new int[MOST_PERSONS];
        private final int[] mothers = new int[MOST_PERSONS];
        private final int[] birthMothers = new int[MOST_PERSONS];
        private final int[] birthDays = new int[MOST_PERSONS];
        private final boolean[] adopted = new boolean[MOST_PERSONS];
        private final int[] lowest = new int[MOST_PERSONS];
        private int reached;
        private int known;
        private Act coming;

        private void find(Acts acts, int s, int k) {
            begin(acts, k);
            goOn(s);
        }

        /** Stands before the first day, with the JOININGS that are so on all days. */
        private void begin(Acts acts, int k) {
            known = k;
            reached = 0;
            coming = acts.earliest;
            forget();
            joinDoubles(acts);
        }

        private void goOn(int s) {
            reached = s;
            Act next = coming;
            for (; next != null && next.so <= s; next = next.after) {
                if (next.isKnownOn(known)) {
                    happen(next);
                }
            }
            coming = next;
        }

        private void forget() {
            for (int person = 0; person < MOST_PERSONS; person++) {
                meant[person] = person;
                adopted[person] = false;
            }
            Arrays.fill(being, UNBORN);
            Arrays.fill(dwellings, NONE);
            Arrays.fill(names, NONE);
            Arrays.fill(partners, NONE);
            Arrays.fill(mothers, NONE);
            Arrays.fill(birthMothers, NONE);
            Arrays.fill(birthDays, NONE);
        }

        private void joinDoubles(Acts acts) {
            for (int place = 0; place < acts.told; place++) {
                Act act = acts.find(place);
                if (act != null && act.kind == JOINING && act.isKnownOn(known)) {
                    put(meant, act.other, act.person);
                }
            }
            // Who is meant has a lower number, so it has been followed to its end already.
            for (int person = 0; person < MOST_PERSONS; person++) {
                if (meant[person] != person) {
                    meant[person] = at(meant, meant[person]);
                    being[person] = DOUBLE;
                }
            }
        }

        private void happen(Act act) {
            int person = at(meant, act.person);
            int other = at(meant, act.other);
            switch (act.kind) {
                case BIRTH:
                    beBorn(person, other, act);
                    break;
                case MOVE:
                    if (isLiving(person)) {
                        put(dwellings, person, act.dwelling);
                    }
                    break;
                case NAMING:
                    if (isLiving(person)) {
                        put(names, person, act.name);
                    }
                    break;
                case BOND:
                    bond(person, other);
                    break;
                case PARTING:
                    part(person, other);
                    break;
                case DEATH:
                    die(person);
                    break;
                case ADOPTION:
                    adopt(person, other);
                    break;
                default:
                    break;
            }
        }

        private void beBorn(int person, int mother, Act act) {
            if (at(being, person) != UNBORN) {
                return;
            }
            int living = mother != person && isLiving(mother) ? mother : NONE;
            put(being, person, LIVING);
            put(dwellings, person, act.dwelling);
            put(names, person, act.name);
            put(mothers, person, living);
            put(birthMothers, person, living);
            put(birthDays, person, act.so);
        }

        private void bond(int person, int other) {
            if (areTwoLiving(person, other) && at(partners, person) == NONE && at(partners, other) == NONE) {
                put(partners, person, other);
                put(partners, other, person);
            }
        }

        private void part(int person, int other) {
            if (areTwoLiving(person, other) && at(partners, person) == other) {
                put(partners, person, NONE);
                put(partners, other, NONE);
            }
        }

        private void die(int person) {
            if (isLiving(person)) {
                put(partners, at(partners, person), NONE);
                put(partners, person, NONE);
                put(dwellings, person, NONE);
                put(being, person, DEAD);
            }
        }

        private void adopt(int person, int mother) {
            if (areTwoLiving(person, mother)) {
                put(mothers, person, mother);
                set(adopted, person, true);
            }
        }

        private boolean isLiving(int person) {
            return person >= 0 && person < being.length && being[person] == LIVING;
        }

        private boolean areTwoLiving(int person, int other) {
            return person != other && isLiving(person) && isLiving(other);
        }

        private boolean isBorn(int person) {
            int is = at(being, person);
            return is == LIVING || is == DEAD;
        }

        private boolean areInOneDwelling(int person, int other) {
            return isLiving(person) && isLiving(other) && at(dwellings, person) == at(dwellings, other);
        }

        private int dwellingOf(int person) {
            return at(dwellings, person);
        }

        private int ageOf(int person) {
            return isLiving(person) ? Math.floorDiv(reached - at(birthDays, person), DAYS_OF_A_YEAR) : NONE;
        }

        private int tellOf(int person, int what) {
            switch (what) {
                case IS:
                    return at(being, person);
                case IS_IN:
                    return at(dwellings, person);
                case IS_NAMED:
                    return at(names, person);
                case HAS_PARTNER:
                    return at(partners, person);
                case HAS_MOTHER:
                    return at(mothers, person);
                case HAS_AGE:
                    return ageOf(person);
                default:
                    return lowestOfHousehold(person);
            }
        }

        private int lowestOfHousehold(int person) {
            if (!isLiving(person)) {
                return NONE;
            }
            findHouseholds();
            return at(lowest, person);
        }

        private int countHouseholds(int dwelling) {
            findHouseholds();
            int many = 0;
            for (int person = 0; person < MOST_PERSONS; person++) {
                if (isLiving(person) && dwellings[person] == dwelling && lowest[person] == person) {
                    many++;
                }
            }
            return many;
        }

        private void findHouseholds() {
            for (int person = 0; person < MOST_PERSONS; person++) {
                lowest[person] = person;
            }
            for (int person = 0; person < MOST_PERSONS; person++) {
                if (areInOneDwelling(person, partners[person])) {
                    uniteHouseholds(person, partners[person]);
                }
                if (isChildAtHome(person)) {
                    uniteHouseholds(person, mothers[person]);
                }
            }
        }

        private boolean isChildAtHome(int person) {
            return areInOneDwelling(person, at(mothers, person))
                && at(partners, person) == NONE
                && ageOf(person) < AGE_OFF_HOUSEHOLD;
        }

        private void uniteHouseholds(int person, int other) {
            int low = Math.min(at(lowest, person), at(lowest, other));
            int high = Math.max(at(lowest, person), at(lowest, other));
            for (int each = 0; each < MOST_PERSONS; each++) {
                if (lowest[each] == high) {
                    lowest[each] = low;
                }
            }
        }

        private int countLivingUnder(int office) {
            int many = 0;
            for (int person = 0; person < MOST_PERSONS; person++) {
                if (isLiving(person) && officeOf(dwellings[person]) == office) {
                    many++;
                }
            }
            return many;
        }

        private boolean isSameIn(Land land, int person) {
            return at(being, person) == at(land.being, person)
                && at(dwellings, person) == at(land.dwellings, person)
                && at(names, person) == at(land.names, person)
                && at(partners, person) == at(land.partners, person)
                && at(mothers, person) == at(land.mothers, person);
        }

        private int originFor(int person, int asker) {
            int asks = at(meant, asker);
            if (isSet(adopted, person) && asks != person && asks != at(mothers, person)) {
                return HIDDEN;
            }
            return at(birthMothers, person);
        }

        private int countLikeness(int person, int other) {
            if (!isBorn(person) || !isBorn(other)) {
                return 0;
            }
            int points = 0;
            int daysOff = Math.abs(at(birthDays, person) - at(birthDays, other));
            if (daysOff == 0) {
                points += BORN_LIKE;
            } else if (daysOff <= NEAR_DAYS) {
                points += BORN_NEAR;
            }
            if (at(names, person) == at(names, other)) {
                points += NAMED_LIKE;
            }
            if (areInOneDwelling(person, other)) {
                points += HOUSED_LIKE;
            }
            return points;
        }
    }

    /** The numbers for life that were given, in their order, and to whom. */
    private static final class Numbers {
        private final int[] rows = new int[MOST_NUMBERS];
        private final int[] bearers = new int[MOST_NUMBERS];
        private int given;
        private int nextSerial = FIRST_SERIAL;

        private int give(int person) {
            int next = takeNext();
            put(rows, given, next);
            put(bearers, given, person);
            given++;
            return next;
        }

        private int takeNext() {
            for (int serial = nextSerial; serial <= LAST_SERIAL; serial++) {
                if (checkOf(serial) != NO_CHECK) {
                    nextSerial = serial + 1;
                    return 10 * serial + checkOf(serial);
                }
            }
            return NONE;
        }

        private int lastOf(int person) {
            for (int place = given - 1; place >= 0; place--) {
                if (at(bearers, place) == person) {
                    return at(rows, place);
                }
            }
            return NONE;
        }

        private int personOf(int asks) {
            for (int place = 0; place < given; place++) {
                if (at(rows, place) == asks) {
                    return at(bearers, place);
                }
            }
            return NONE;
        }

        private static boolean isOfSerial(int asks) {
            int serial = asks / 10;
            return serial >= FIRST_SERIAL && serial <= LAST_SERIAL && asks % 10 == checkOf(serial);
        }

        private static int checkOf(int serial) {
            int first = serial / 1000 % 10;
            int second = serial / 100 % 10;
            int third = serial / 10 % 10;
            int fourth = serial % 10;
            return (2 * first + 3 * second + 4 * third + 5 * fourth) % 11;
        }
    }

    /** A receiver, who knows what the messages told and no more. */
    private static final class Roll {
        private static final int MOST_MESSAGES = MOST_CALLS * MOST_PERSONS;

        private final int kind;
        private final int office;
        private final int[] dwellings = new int[MOST_PERSONS];
        private int[] messages = new int[MOST_PERSONS];
        private int got;

        private Roll(int kind, int office) {
            this.kind = kind;
            this.office = office;
            Arrays.fill(dwellings, NONE);
        }

        private static int write(int person, int dwelling, int tells) {
            return 1000 * person + 10 * dwelling + tells;
        }

        private static int personIn(int message) {
            return message / 1000;
        }

        private static int dwellingIn(int message) {
            return message % 10 == GOES ? NONE : message % 1000 / 10;
        }

        private void take(int message) {
            if (got >= messages.length) {
                grow();
            }
            // More than all calls can send comes only after them, and is not kept.
            if (got < messages.length) {
                put(messages, got, message);
                got++;
                put(dwellings, personIn(message), dwellingIn(message));
            }
        }

        private void grow() {
            int most = Math.min(2 * messages.length, MOST_MESSAGES);
            if (most > messages.length) {
                messages = Arrays.copyOf(messages, most);
            }
        }

        private int findAnew(int person) {
            int dwelling = NONE;
            for (int place = 0; place < got; place++) {
                int message = at(messages, place);
                if (personIn(message) == person) {
                    dwelling = dwellingIn(message);
                }
            }
            return dwelling;
        }
    }
}
