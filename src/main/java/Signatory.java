import java.util.ArrayList;
import java.util.List;
import java.util.NoSuchElementException;

/** A book of signing powers. */
public final class Signatory {
    private static final int MOST_PERSONS = 8;
    private static final int MOST_POWERS = 20;
    private static final int MOST_DEEDS = 24;
    /** An object is used for at most 512 calls, and no call tells more than one paper. */
    private static final int MOST_PAPERS = 512;

    private static final int LAST_KIND = 3;
    private static final int LAST_PARTY = 9;
    private static final int LAST_DAY = 999;
    private static final int MOST_SUM = 99999;
    private static final int MOST_AMOUNT = 9999;
    private static final int MOST_DAYS = 99;
    private static final int FIRST_WINDOW = 30;

    /** Stands for a number of a person, a power or a step where there is none. */
    private static final int NONE = -1;
    /** Stands for the substitute of a person who is not absent. */
    private static final int PRESENT = -2;

    private static final char NO_FAULT = '-';
    private static final char DAY_FAULT = 'd';
    private static final char REVOKED_FAULT = 'v';
    private static final char LIMIT_FAULT = 'l';

    private static final char NO_LACK = '-';
    private static final char NO_POWER_LACK = 'k';
    private static final char HANDS_LACK = 'h';
    /** All lacks; one that stands later in this text hides those before it. */
    private static final String LACKS = "kdvlh";

    private static final char STANDS = 's';
    private static final char WAITS = 'w';
    private static final char RATIFIED = 'r';
    private static final char ANNULLED = 'n';

    /** The hands by which a person can act, as bits that can be joined. */
    private static final int NO_HAND = 0;
    private static final int HAND_ALONE = 1;
    private static final int HAND_A = 2;
    private static final int HAND_B = 4;

    /** What a paper can tell. */
    private static final int LIMIT_TOLD = 0;
    private static final int POWER_REVOKED = 1;
    private static final int ABSENCE_TOLD = 2;
    private static final int WINDOW_TOLD = 3;
    private static final int DEED_ANNULLED = 4;

    private final List<Power> powers = new ArrayList<>();
    private final List<Deed> deeds = new ArrayList<>();
    private final List<Paper> papers = new ArrayList<>();
    private final Moment now = new Moment();
    /** Filled anew for each look at the papers, so that looking makes no objects. */
    private final Moment past = new Moment();
    private int personCount;

    public Signatory() {
        personCount = 0;
    }

    // ---- persons

    public int addPerson() throws IllegalStateException {
        if (personCount >= MOST_PERSONS) {
            throw new IllegalStateException("there are 8 persons");
        }
        personCount++;
        return personCount - 1;
    }

    public int leave(int person, int substitute) throws IndexOutOfBoundsException, IllegalArgumentException {
        requirePerson(person);
        if (substitute != NONE) {
            requirePerson(substitute);
        }
        if (person == substitute) {
            throw new IllegalArgumentException("nobody is one's own substitute");
        }
        int before = substituteOrNone(person);
        tell(ABSENCE_TOLD, person, substitute);
        return before;
    }

    public int comeBack(int person) throws IndexOutOfBoundsException, IllegalStateException {
        requirePerson(person);
        if (now.substituteFor(person) == PRESENT) {
            throw new IllegalStateException("the person is present");
        }
        int before = substituteOrNone(person);
        tell(ABSENCE_TOLD, person, PRESENT);
        return before;
    }

    public boolean actsFor(int person, int other) throws IndexOutOfBoundsException {
        requirePerson(person);
        requirePerson(other);
        return now.actsByPowersOf(person, other);
    }

    // ---- powers

    public int grant(int holder, int kind, char hand, int limit, int first, int last)
            throws IndexOutOfBoundsException, IllegalArgumentException, IllegalStateException {
        requirePerson(holder);
        requireKind(kind);
        if (bitOfHand(hand) == NO_HAND) {
            throw new IllegalArgumentException("no such hand");
        }
        requireLimitAndDays(limit, first, last);
        requireRoomForPower();
        return keepPower(new Power(powers.size(), holder, kind, bitOfHand(hand), first, last, null), limit);
    }

    public int delegate(int power, int holder, int limit, int first, int last) throws IndexOutOfBoundsException,
            IllegalArgumentException, UnsupportedOperationException, IllegalStateException {
        Power from = findPower(power);
        requirePerson(holder);
        requireLimitAndDays(limit, first, last);
        if (holder == from.holder || limit > now.limitOf(from) || first < from.first || last > from.last) {
            throw new UnsupportedOperationException("the power cannot be delegated like this");
        }
        if (now.isRevoked(from)) {
            throw new IllegalStateException("the power has been revoked");
        }
        requireRoomForPower();
        return keepPower(new Power(powers.size(), holder, from.kind, from.hand, first, last, from), limit);
    }

    public int lower(int power, int limit) throws IndexOutOfBoundsException, IllegalArgumentException {
        Power found = findPower(power);
        int before = now.limitOf(found);
        if (!isBetween(limit, 1, before)) {
            throw new IllegalArgumentException("the new limit is not between 1 and the limit");
        }
        tell(LIMIT_TOLD, power, limit);
        return before;
    }

    public int revoke(int power) throws IndexOutOfBoundsException, IllegalStateException {
        Power found = findPower(power);
        if (now.isRevoked(found)) {
            throw new IllegalStateException("the power has been revoked");
        }
        tell(POWER_REVOKED, power, NONE);
        return countPowersFrom(found);
    }

    public int source(int power) throws IndexOutOfBoundsException {
        Power from = findPower(power).source;
        return from == null ? NONE : from.number;
    }

    public int limit(int power) throws IndexOutOfBoundsException {
        return now.limitOf(findPower(power));
    }

    public char fault(int power, int sum) throws IndexOutOfBoundsException, IllegalArgumentException {
        Power found = findPower(power);
        requireSum(sum);
        return now.faultOf(found, sum);
    }

    public int faultDepth(int power, int sum)
            throws IndexOutOfBoundsException, IllegalArgumentException, NoSuchElementException {
        Power found = findPower(power);
        requireSum(sum);
        int steps = now.stepsToFault(found, sum);
        if (steps == NONE) {
            throw new NoSuchElementException("the power has no fault");
        }
        return steps;
    }

    public int reach(int power) throws IndexOutOfBoundsException {
        return now.reachOf(findPower(power));
    }

    // ---- who can sign

    public boolean canSign(int person, int kind, int sum) throws IndexOutOfBoundsException, IllegalArgumentException {
        requirePerson(person);
        requireKind(kind);
        requireSum(sum);
        return signsAlone(person, kind, sum, now);
    }

    public boolean canSignTogether(int person, int other, int kind, int sum)
            throws IndexOutOfBoundsException, IllegalArgumentException, UnsupportedOperationException {
        requirePerson(person);
        requirePerson(other);
        requireKind(kind);
        requireSum(sum);
        requireTwo(person, other);
        return signTwo(person, other, kind, sum);
    }

    public int signers(int kind, int sum) throws IllegalArgumentException {
        requireKind(kind);
        requireSum(sum);
        int count = 0;
        for (int person = 0; person < personCount; person++) {
            if (signsAlone(person, kind, sum, now)) {
                count++;
            }
        }
        return count;
    }

    public int pairs(int kind, int sum) throws IllegalArgumentException {
        requireKind(kind);
        requireSum(sum);
        int others = 0;
        int withA = 0;
        int withB = 0;
        int withBoth = 0;
        for (int person = 0; person < personCount; person++) {
            int hands = handsOf(person, kind, sum, now);
            if ((hands & HAND_ALONE) == 0) {
                others++;
                withA += (hands & HAND_A) != 0 ? 1 : 0;
                withB += (hands & HAND_B) != 0 ? 1 : 0;
                withBoth += hands == (HAND_A | HAND_B) ? 1 : 0;
            }
        }
        int pairsWithOneAlone = pairsAmong(personCount) - pairsAmong(others);
        // withA * withB counts a person with both hands as a pair with itself, and two such persons twice.
        int pairsOfHands = withA * withB - withBoth - pairsAmong(withBoth);
        return pairsWithOneAlone + pairsOfHands;
    }

    public int pairsByTrying(int kind, int sum) throws IllegalArgumentException {
        requireKind(kind);
        requireSum(sum);
        int count = 0;
        for (int person = 0; person < personCount; person++) {
            for (int other = person + 1; other < personCount; other++) {
                if (signTwo(person, other, kind, sum)) {
                    count++;
                }
            }
        }
        return count;
    }

    // ---- deeds

    public int sign(int person, int kind, int amount, int party)
            throws IndexOutOfBoundsException, IllegalArgumentException, IllegalStateException {
        requirePerson(person);
        requireDealing(kind, amount, party);
        requireRoomForDeed();
        return keepDeed(new Deed(deeds.size(), person, NONE, kind, amount, party));
    }

    public int signTogether(int person, int other, int kind, int amount, int party) throws IndexOutOfBoundsException,
            IllegalArgumentException, UnsupportedOperationException, IllegalStateException {
        requirePerson(person);
        requirePerson(other);
        requireDealing(kind, amount, party);
        requireTwo(person, other);
        requireRoomForDeed();
        return keepDeed(new Deed(deeds.size(), person, other, kind, amount, party));
    }

    public int ratify(int deed, int person)
            throws IndexOutOfBoundsException, IllegalStateException, UnsupportedOperationException {
        Deed found = findDeed(deed);
        requirePerson(person);
        requireWaiting(found);
        if (!signsAlone(person, found.kind, found.sum, now)) {
            throw new UnsupportedOperationException("the person cannot sign the sum alone today");
        }
        found.status = RATIFIED;
        found.ratifier = person;
        found.ratifiedOn = now.day;
        found.papersWhenRatified = papers.size();
        return found.sum;
    }

    public int annul(int deed) throws IndexOutOfBoundsException, IllegalStateException {
        Deed found = findDeed(deed);
        requireWaiting(found);
        found.status = ANNULLED;
        tell(DEED_ANNULLED, deed, NONE);
        return countWaiting();
    }

    public char status(int deed) throws IndexOutOfBoundsException {
        return findDeed(deed).status;
    }

    public int sum(int deed) throws IndexOutOfBoundsException {
        return findDeed(deed).sum;
    }

    public int sumByPapers(int deed) throws IndexOutOfBoundsException {
        Deed found = findDeed(deed);
        lookBack(found.papersWhenSigned, found.signedOn);
        return addUp(found, past);
    }

    public boolean stands(int deed) throws IndexOutOfBoundsException {
        return findDeed(deed).isStanding();
    }

    public boolean standsByPapers(int deed) throws IndexOutOfBoundsException {
        Deed found = findDeed(deed);
        lookBack(found.papersWhenSigned, found.signedOn);
        int total = addUp(found, past);
        if (signersSuffice(found, total, past)) {
            return true;
        }
        if (found.ratifier == NONE) {
            return false;
        }
        lookBack(found.papersWhenRatified, found.ratifiedOn);
        return signsAlone(found.ratifier, found.kind, total, past);
    }

    public char lack(int deed) throws IndexOutOfBoundsException, NoSuchElementException {
        Deed found = findDeed(deed);
        if (found.lack == NO_LACK) {
            throw new NoSuchElementException("the deed stood when it was signed");
        }
        return found.lack;
    }

    public int lackPower(int deed) throws IndexOutOfBoundsException, NoSuchElementException {
        Deed found = findDeed(deed);
        requireLackingPower(found);
        return found.lackPower;
    }

    public int lackDepth(int deed) throws IndexOutOfBoundsException, NoSuchElementException {
        Deed found = findDeed(deed);
        requireLackingPower(found);
        return found.lackDepth;
    }

    public int setWindow(int days) throws IllegalArgumentException {
        requireDayCount(days);
        int before = now.window;
        tell(WINDOW_TOLD, NONE, days);
        return before;
    }

    // ---- days and sums

    public int pass(int days) throws IllegalArgumentException {
        requireDayCount(days);
        if (now.day + days > LAST_DAY) {
            throw new IllegalArgumentException("today would be behind 999");
        }
        now.day += days;
        return now.day;
    }

    public int today() {
        return now.day;
    }

    public long bound() {
        long total = 0;
        for (int number = 0; number < deeds.size(); number++) {
            Deed each = deeds.get(number);
            if (each.isStanding()) {
                total += each.amount;
            }
        }
        return total;
    }

    public float standingShare() throws NoSuchElementException {
        int all = deeds.size();
        if (all == 0) {
            throw new NoSuchElementException("there is no deed");
        }
        int standing = 0;
        for (int number = 0; number < all; number++) {
            if (deeds.get(number).isStanding()) {
                standing++;
            }
        }
        return (float) standing / (float) all;
    }

    // ---- tests of arguments

    private static boolean isBetween(int value, int least, int most) {
        return value >= least && value <= most;
    }

    private static boolean isIndex(int index, int length) {
        return index >= 0 && index < length;
    }

    private void requirePerson(int person) {
        if (!isIndex(person, personCount)) {
            throw new IndexOutOfBoundsException("no such person");
        }
    }

    private Power findPower(int power) {
        if (!isIndex(power, powers.size())) {
            throw new IndexOutOfBoundsException("no such power");
        }
        return powers.get(power);
    }

    private Deed findDeed(int deed) {
        if (!isIndex(deed, deeds.size())) {
            throw new IndexOutOfBoundsException("no such deed");
        }
        return deeds.get(deed);
    }

    private static void requireKind(int kind) {
        if (!isBetween(kind, 0, LAST_KIND)) {
            throw new IllegalArgumentException("no such kind");
        }
    }

    private static void requireSum(int sum) {
        if (!isBetween(sum, 1, MOST_SUM)) {
            throw new IllegalArgumentException("the sum is not between 1 and 99999");
        }
    }

    private static void requireLimitAndDays(int limit, int first, int last) {
        if (!isBetween(limit, 1, MOST_SUM)) {
            throw new IllegalArgumentException("the limit is not between 1 and 99999");
        }
        if (!isBetween(first, 0, LAST_DAY) || !isBetween(last, first, LAST_DAY)) {
            throw new IllegalArgumentException("these are no first and last day");
        }
    }

    private static void requireDealing(int kind, int amount, int party) {
        requireKind(kind);
        if (!isBetween(party, 0, LAST_PARTY)) {
            throw new IllegalArgumentException("no such party");
        }
        if (!isBetween(amount, 1, MOST_AMOUNT)) {
            throw new IllegalArgumentException("the amount is not between 1 and 9999");
        }
    }

    private static void requireDayCount(int days) {
        if (!isBetween(days, 1, MOST_DAYS)) {
            throw new IllegalArgumentException("the number of days is not between 1 and 99");
        }
    }

    private static void requireTwo(int person, int other) {
        if (person == other) {
            throw new UnsupportedOperationException("both persons are the same");
        }
    }

    private void requireRoomForPower() {
        if (powers.size() >= MOST_POWERS) {
            throw new IllegalStateException("there are 20 powers");
        }
    }

    private void requireRoomForDeed() {
        if (deeds.size() >= MOST_DEEDS) {
            throw new IllegalStateException("there are 24 deeds");
        }
    }

    private static void requireWaiting(Deed deed) {
        if (deed.status != WAITS) {
            throw new IllegalStateException("the deed does not wait");
        }
    }

    private static void requireLackingPower(Deed deed) {
        if (deed.lack == NO_LACK || deed.lack == NO_POWER_LACK) {
            throw new NoSuchElementException("the deed has no power of the lack");
        }
    }

    // ---- papers

    private void tell(int matter, int subject, int value) {
        Paper paper = new Paper(matter, subject, value);
        if (papers.size() < MOST_PAPERS) {
            papers.add(paper);
        }
        now.take(paper);
    }

    /** Fills the past with the first so many papers, as they are judged on the day. */
    private void lookBack(int paperCount, int day) {
        past.forget();
        past.day = day;
        for (int number = 0; number < paperCount && number < papers.size(); number++) {
            past.take(papers.get(number));
        }
    }

    // ---- powers and hands

    private static int bitOfHand(char hand) {
        if (hand == 's') {
            return HAND_ALONE;
        }
        if (hand == 'a') {
            return HAND_A;
        }
        return hand == 'b' ? HAND_B : NO_HAND;
    }

    private int keepPower(Power power, int limit) {
        powers.add(power);
        tell(LIMIT_TOLD, power.number, limit);
        return power.number;
    }

    private int countPowersFrom(Power origin) {
        int count = 0;
        for (int number = 0; number < powers.size(); number++) {
            if (powers.get(number).comesFrom(origin)) {
                count++;
            }
        }
        return count;
    }

    private int substituteOrNone(int person) {
        int substitute = now.substituteFor(person);
        return substitute == PRESENT ? NONE : substitute;
    }

    private int handsOf(int person, int kind, int sum, Moment when) {
        int hands = NO_HAND;
        for (int number = 0; number < powers.size(); number++) {
            Power each = powers.get(number);
            if (each.kind == kind && when.actsByPowersOf(person, each.holder)
                    && when.faultOf(each, sum) == NO_FAULT) {
                hands |= each.hand;
            }
        }
        return hands;
    }

    private boolean signsAlone(int person, int kind, int sum, Moment when) {
        return suffice(handsOf(person, kind, sum, when), NO_HAND);
    }

    private boolean signTwo(int person, int other, int kind, int sum) {
        return suffice(handsOf(person, kind, sum, now), handsOf(other, kind, sum, now));
    }

    private static boolean suffice(int hands, int otherHands) {
        return ((hands | otherHands) & HAND_ALONE) != 0
                || (hands & HAND_A) != 0 && (otherHands & HAND_B) != 0
                || (hands & HAND_B) != 0 && (otherHands & HAND_A) != 0;
    }

    private static int pairsAmong(int count) {
        return count * (count - 1) / 2;
    }

    // ---- deeds and lacks

    private int keepDeed(Deed deed) {
        deed.signedOn = now.day;
        deed.papersWhenSigned = papers.size();
        deed.sum = addUp(deed, now);
        if (signersSuffice(deed, deed.sum, now)) {
            deed.status = STANDS;
        } else {
            deed.status = WAITS;
            findLack(deed);
        }
        deeds.add(deed);
        return deed.number;
    }

    private int addUp(Deed deed, Moment when) {
        int total = deed.amount;
        for (int number = 0; number < deed.number && number < deeds.size(); number++) {
            Deed earlier = deeds.get(number);
            if (earlier.kind == deed.kind && earlier.party == deed.party && !when.isAnnulled(earlier)
                    && when.day - earlier.signedOn < when.window) {
                total += earlier.amount;
            }
        }
        return total;
    }

    private boolean signersSuffice(Deed deed, int sum, Moment when) {
        int hands = handsOf(deed.signer, deed.kind, sum, when);
        int otherHands = deed.other == NONE ? NO_HAND : handsOf(deed.other, deed.kind, sum, when);
        return suffice(hands, otherHands);
    }

    private void findLack(Deed deed) {
        deed.lack = NO_POWER_LACK;
        for (int number = 0; number < powers.size(); number++) {
            Power each = powers.get(number);
            if (each.kind == deed.kind && signersActBy(each, deed)) {
                noteLack(deed, each);
            }
        }
    }

    private boolean signersActBy(Power power, Deed deed) {
        return now.actsByPowersOf(deed.signer, power.holder)
                || deed.other != NONE && now.actsByPowersOf(deed.other, power.holder);
    }

    private void noteLack(Deed deed, Power power) {
        char fault = now.faultOf(power, deed.sum);
        char lack = fault == NO_FAULT ? HANDS_LACK : fault;
        if (LACKS.indexOf(lack) > LACKS.indexOf(deed.lack)) {
            deed.lack = lack;
            deed.lackPower = power.number;
            deed.lackDepth = fault == NO_FAULT ? 0 : now.stepsToFault(power, deed.sum);
        }
    }

    private int countWaiting() {
        int count = 0;
        for (int number = 0; number < deeds.size(); number++) {
            if (deeds.get(number).status == WAITS) {
                count++;
            }
        }
        return count;
    }

    /** What never changes about a power; its limit and its being revoked are told by papers. */
    private static final class Power {
        final int number;
        final int holder;
        final int kind;
        final int hand;
        final int first;
        final int last;
        /** Null if the power was granted. */
        final Power source;

        Power(int number, int holder, int kind, int hand, int first, int last, Power source) {
            this.number = number;
            this.holder = holder;
            this.kind = kind;
            this.hand = hand;
            this.first = first;
            this.last = last;
            this.source = source;
        }

        boolean comesFrom(Power origin) {
            for (Power each = this; each != null; each = each.source) {
                if (each == origin) {
                    return true;
                }
            }
            return false;
        }
    }

    /** A deed, with what the papers are asked for when it is judged anew. */
    private static final class Deed {
        final int number;
        final int signer;
        /** NONE if there is one signer. */
        final int other;
        final int kind;
        final int amount;
        final int party;
        int signedOn;
        int papersWhenSigned;
        int sum;
        char status;
        char lack = NO_LACK;
        int lackPower = NONE;
        int lackDepth;
        int ratifier = NONE;
        int ratifiedOn;
        int papersWhenRatified;

        Deed(int number, int signer, int other, int kind, int amount, int party) {
            this.number = number;
            this.signer = signer;
            this.other = other;
            this.kind = kind;
            this.amount = amount;
            this.party = party;
        }

        boolean isStanding() {
            return status == STANDS || status == RATIFIED;
        }
    }

    /** One thing that was told: the papers keep these in their order. */
    private static final class Paper {
        final int matter;
        final int subject;
        final int value;

        Paper(int matter, int subject, int value) {
            this.matter = matter;
            this.subject = subject;
            this.value = value;
        }
    }

    /** What holds after some of the papers, on a day. */
    private static final class Moment {
        /** 0 for a power that has not been told yet: no sum is within it. */
        private final int[] limits = new int[MOST_POWERS];
        private final boolean[] revoked = new boolean[MOST_POWERS];
        private final int[] substitutes = new int[MOST_PERSONS];
        private final boolean[] annulled = new boolean[MOST_DEEDS];
        int window;
        int day;

        Moment() {
            forget();
        }

        void forget() {
            for (int power = 0; power < limits.length && power < revoked.length; power++) {
                limits[power] = 0;
                revoked[power] = false;
            }
            for (int person = 0; person < substitutes.length; person++) {
                substitutes[person] = PRESENT;
            }
            for (int deed = 0; deed < annulled.length; deed++) {
                annulled[deed] = false;
            }
            window = FIRST_WINDOW;
            day = 0;
        }

        void take(Paper paper) {
            int subject = paper.subject;
            if (paper.matter == LIMIT_TOLD && isIndex(subject, limits.length)) {
                limits[subject] = paper.value;
            } else if (paper.matter == POWER_REVOKED && isIndex(subject, revoked.length)) {
                revoked[subject] = true;
            } else if (paper.matter == ABSENCE_TOLD && isIndex(subject, substitutes.length)) {
                substitutes[subject] = paper.value;
            } else if (paper.matter == WINDOW_TOLD) {
                window = paper.value;
            } else if (paper.matter == DEED_ANNULLED && isIndex(subject, annulled.length)) {
                annulled[subject] = true;
            }
        }

        int limitOf(Power power) {
            int number = power.number;
            return number >= 0 && number < limits.length ? limits[number] : 0;
        }

        boolean isRevoked(Power power) {
            int number = power.number;
            return number >= 0 && number < revoked.length && revoked[number];
        }

        boolean isAnnulled(Deed deed) {
            return isIndex(deed.number, annulled.length) && annulled[deed.number];
        }

        int substituteFor(int person) {
            return isIndex(person, substitutes.length) ? substitutes[person] : PRESENT;
        }

        boolean actsByPowersOf(int person, int holder) {
            return person == holder || substituteFor(holder) == person;
        }

        private char ownFault(Power power, int sum) {
            if (!isBetween(day, power.first, power.last)) {
                return DAY_FAULT;
            }
            if (isRevoked(power)) {
                return REVOKED_FAULT;
            }
            return sum > limitOf(power) ? LIMIT_FAULT : NO_FAULT;
        }

        /** The fault of a source goes ahead of a power's own, so the farthest one counts. */
        char faultOf(Power power, int sum) {
            char found = NO_FAULT;
            for (Power each = power; each != null; each = each.source) {
                char own = ownFault(each, sum);
                if (own != NO_FAULT) {
                    found = own;
                }
            }
            return found;
        }

        int stepsToFault(Power power, int sum) {
            int found = NONE;
            int steps = 0;
            for (Power each = power; each != null; each = each.source) {
                if (ownFault(each, sum) != NO_FAULT) {
                    found = steps;
                }
                steps++;
            }
            return found;
        }

        int reachOf(Power power) {
            // A limit is never below 1, so a fault for the sum 1 is one for every sum.
            if (faultOf(power, 1) != NO_FAULT) {
                return 0;
            }
            int least = limitOf(power);
            for (Power each = power.source; each != null; each = each.source) {
                least = Math.min(least, limitOf(each));
            }
            return least;
        }
    }
}
