import java.util.ArrayList;
import java.util.HashMap;
import java.util.HashSet;
import java.util.List;
import java.util.Map;
import java.util.NoSuchElementException;
import java.util.Set;

/**
 * The document's book once more, written for comparing only: it copies the whole world for each deed
 * instead of keeping papers, and follows the words of the document without a thought for cost.
 */
final class PlainSignatory {
    private record Power(int holder, int kind, char hand, int limit, int first, int last, int source, boolean revoked) {
        Power withLimit(int lowered) {
            return new Power(holder, kind, hand, lowered, first, last, source, revoked);
        }

        Power afterRevoking() {
            return new Power(holder, kind, hand, limit, first, last, source, true);
        }
    }

    private static final class Deed {
        private List<Integer> signers;
        private int kind;
        private int amount;
        private int party;
        private int day;
        private char status;
        private World worldThen;
        private int ratifier;
        private World worldWhenRatified;
    }

    /** All that can change what somebody can sign or what a sum is; deeds annulled are kept by number. */
    private static final class World {
        private final List<Power> powers = new ArrayList<>();
        private final Map<Integer, Integer> absent = new HashMap<>();
        private final Set<Integer> annulled = new HashSet<>();
        private int window = 30;
        private int day = 0;

        World copy() {
            World other = new World();
            other.powers.addAll(powers);
            other.absent.putAll(absent);
            other.annulled.addAll(annulled);
            other.window = window;
            other.day = day;
            return other;
        }

        boolean acts(int person, int holder) {
            if (person == holder) {
                return true;
            }
            return absent.containsKey(holder) && absent.get(holder) == person;
        }

        /** The fault and its depth, as a text such as "l2", or "-". */
        String fault(int number, int sum) {
            Power power = powers.get(number);
            if (power.source() >= 0) {
                String above = fault(power.source(), sum);
                if (!above.equals("-")) {
                    return above.charAt(0) + "" + (Integer.parseInt(above.substring(1)) + 1);
                }
            }
            if (day < power.first() || day > power.last()) {
                return "d0";
            }
            if (power.revoked()) {
                return "v0";
            }
            return sum > power.limit() ? "l0" : "-";
        }

        boolean hasHand(int person, int kind, int sum, char hand) {
            for (int number = 0; number < powers.size(); number++) {
                Power power = powers.get(number);
                if (power.kind() == kind && power.hand() == hand && acts(person, power.holder())
                        && fault(number, sum).equals("-")) {
                    return true;
                }
            }
            return false;
        }

        boolean canSign(List<Integer> signers, int kind, int sum) {
            for (int signer : signers) {
                if (hasHand(signer, kind, sum, 's')) {
                    return true;
                }
            }
            for (int one : signers) {
                for (int two : signers) {
                    if (one != two && hasHand(one, kind, sum, 'a') && hasHand(two, kind, sum, 'b')) {
                        return true;
                    }
                }
            }
            return false;
        }

        /** The lack, its power and its depth, as a text such as "l 4 2". */
        String lack(List<Integer> signers, int kind, int sum) {
            String found = "k";
            for (char wanted : new char[] {'d', 'v', 'l', 'h'}) {
                for (int number = powers.size() - 1; number >= 0; number--) {
                    Power power = powers.get(number);
                    boolean acting = signers.stream().anyMatch(signer -> acts(signer, power.holder()));
                    String fault = fault(number, sum).equals("-") ? "h0" : fault(number, sum);
                    if (power.kind() == kind && acting && fault.charAt(0) == wanted) {
                        found = wanted + " " + number + " " + fault.substring(1);
                    }
                }
            }
            return found;
        }
    }

    private final World world = new World();
    private final List<Deed> deeds = new ArrayList<>();
    private int persons = 0;

    private void person(int person) {
        if (person < 0 || person >= persons) {
            throw new IndexOutOfBoundsException();
        }
    }

    private void power(int power) {
        if (power < 0 || power >= world.powers.size()) {
            throw new IndexOutOfBoundsException();
        }
    }

    private Deed deed(int deed) {
        if (deed < 0 || deed >= deeds.size()) {
            throw new IndexOutOfBoundsException();
        }
        return deeds.get(deed);
    }

    private static void argument(boolean right) {
        if (!right) {
            throw new IllegalArgumentException();
        }
    }

    private static void state(boolean right) {
        if (!right) {
            throw new IllegalStateException();
        }
    }

    private static void supported(boolean right) {
        if (!right) {
            throw new UnsupportedOperationException();
        }
    }

    private static void element(boolean there) {
        if (!there) {
            throw new NoSuchElementException();
        }
    }

    private static boolean in(int least, int value, int most) {
        return least <= value && value <= most;
    }

    int addPerson() {
        state(persons < 8);
        return persons++;
    }

    int leave(int person, int substitute) {
        person(person);
        if (substitute != -1) {
            person(substitute);
        }
        argument(person != substitute);
        Integer before = world.absent.put(person, substitute);
        return before == null ? -1 : before;
    }

    int comeBack(int person) {
        person(person);
        state(world.absent.containsKey(person));
        return world.absent.remove(person);
    }

    boolean actsFor(int person, int other) {
        person(person);
        person(other);
        return world.acts(person, other);
    }

    int grant(int holder, int kind, char hand, int limit, int first, int last) {
        person(holder);
        argument(in(0, kind, 3) && (hand == 's' || hand == 'a' || hand == 'b') && in(1, limit, 99999));
        argument(in(0, first, 999) && in(0, last, 999) && first <= last);
        state(world.powers.size() < 20);
        world.powers.add(new Power(holder, kind, hand, limit, first, last, -1, false));
        return world.powers.size() - 1;
    }

    int delegate(int power, int holder, int limit, int first, int last) {
        power(power);
        person(holder);
        argument(in(1, limit, 99999) && in(0, first, 999) && in(0, last, 999) && first <= last);
        Power from = world.powers.get(power);
        supported(holder != from.holder() && limit <= from.limit());
        supported(in(from.first(), first, from.last()) && in(from.first(), last, from.last()));
        state(!from.revoked() && world.powers.size() < 20);
        world.powers.add(new Power(holder, from.kind(), from.hand(), limit, first, last, power, false));
        return world.powers.size() - 1;
    }

    /** For choosing calls that succeed: a part of the power's days and limit, or null if there is no such power. */
    int[] partOf(int power, int lessLimit, int lessDays) {
        if (power < 0 || power >= world.powers.size()) {
            return null;
        }
        Power from = world.powers.get(power);
        int limit = Math.max(1, from.limit() - lessLimit);
        return new int[] {limit, from.first() + lessDays, Math.max(from.first() + lessDays, from.last() - lessDays)};
    }

    int lower(int power, int limit) {
        power(power);
        Power old = world.powers.get(power);
        argument(in(1, limit, old.limit()));
        world.powers.set(power, old.withLimit(limit));
        return old.limit();
    }

    int revoke(int power) {
        power(power);
        state(!world.powers.get(power).revoked());
        world.powers.set(power, world.powers.get(power).afterRevoking());
        Set<Integer> all = new HashSet<>();
        all.add(power);
        for (int number = power + 1; number < world.powers.size(); number++) {
            if (all.contains(world.powers.get(number).source())) {
                all.add(number);
            }
        }
        return all.size();
    }

    int source(int power) {
        power(power);
        return world.powers.get(power).source();
    }

    int limit(int power) {
        power(power);
        return world.powers.get(power).limit();
    }

    char fault(int power, int sum) {
        power(power);
        argument(in(1, sum, 99999));
        return world.fault(power, sum).charAt(0);
    }

    int faultDepth(int power, int sum) {
        power(power);
        argument(in(1, sum, 99999));
        String fault = world.fault(power, sum);
        element(!fault.equals("-"));
        return Integer.parseInt(fault.substring(1));
    }

    /** Whether a sum is faultless turns over once only, so halving finds the greatest one. */
    int reach(int power) {
        power(power);
        int least = 0;
        int most = 99999;
        while (least < most) {
            int middle = (least + most + 1) / 2;
            if (world.fault(power, middle).equals("-")) {
                least = middle;
            } else {
                most = middle - 1;
            }
        }
        return least;
    }

    boolean canSign(int person, int kind, int sum) {
        person(person);
        argument(in(0, kind, 3) && in(1, sum, 99999));
        return world.canSign(List.of(person), kind, sum);
    }

    boolean canSignTogether(int person, int other, int kind, int sum) {
        person(person);
        person(other);
        argument(in(0, kind, 3) && in(1, sum, 99999));
        supported(person != other);
        return world.canSign(List.of(person, other), kind, sum);
    }

    int signers(int kind, int sum) {
        argument(in(0, kind, 3) && in(1, sum, 99999));
        int count = 0;
        for (int person = 0; person < persons; person++) {
            count += world.canSign(List.of(person), kind, sum) ? 1 : 0;
        }
        return count;
    }

    int pairs(int kind, int sum) {
        argument(in(0, kind, 3) && in(1, sum, 99999));
        int count = 0;
        for (int person = 0; person < persons; person++) {
            for (int other = 0; other < person; other++) {
                count += world.canSign(List.of(person, other), kind, sum) ? 1 : 0;
            }
        }
        return count;
    }

    int sign(int person, int kind, int amount, int party) {
        person(person);
        argument(in(0, kind, 3) && in(0, party, 9) && in(1, amount, 9999));
        return keep(List.of(person), kind, amount, party);
    }

    int signTogether(int person, int other, int kind, int amount, int party) {
        person(person);
        person(other);
        argument(in(0, kind, 3) && in(0, party, 9) && in(1, amount, 9999));
        supported(person != other);
        return keep(List.of(person, other), kind, amount, party);
    }

    private int keep(List<Integer> signers, int kind, int amount, int party) {
        state(deeds.size() < 24);
        Deed deed = new Deed();
        deed.signers = signers;
        deed.kind = kind;
        deed.amount = amount;
        deed.party = party;
        deed.day = world.day;
        deed.worldThen = world.copy();
        deeds.add(deed);
        deed.status = stoodAtOnce(deed) ? 's' : 'w';
        return deeds.size() - 1;
    }

    private int sumOf(Deed deed) {
        int sum = deed.amount;
        for (int number = 0; deeds.get(number) != deed; number++) {
            Deed earlier = deeds.get(number);
            boolean alike = earlier.kind == deed.kind && earlier.party == deed.party;
            boolean annulled = deed.worldThen.annulled.contains(number);
            if (alike && !annulled && deed.day < earlier.day + deed.worldThen.window) {
                sum += earlier.amount;
            }
        }
        return sum;
    }

    private boolean stoodAtOnce(Deed deed) {
        return deed.worldThen.canSign(deed.signers, deed.kind, sumOf(deed));
    }

    int ratify(int number, int person) {
        Deed deed = deed(number);
        person(person);
        state(deed.status == 'w');
        supported(world.canSign(List.of(person), deed.kind, sumOf(deed)));
        deed.status = 'r';
        deed.ratifier = person;
        deed.worldWhenRatified = world.copy();
        return sumOf(deed);
    }

    int annul(int number) {
        Deed deed = deed(number);
        state(deed.status == 'w');
        deed.status = 'n';
        world.annulled.add(number);
        return (int) deeds.stream().filter(each -> each.status == 'w').count();
    }

    char status(int number) {
        return deed(number).status;
    }

    int sum(int number) {
        return sumOf(deed(number));
    }

    boolean stands(int number) {
        Deed deed = deed(number);
        return stoodAtOnce(deed) || deed.worldWhenRatified != null
                && deed.worldWhenRatified.canSign(List.of(deed.ratifier), deed.kind, sumOf(deed));
    }

    private String lackText(int number) {
        Deed deed = deed(number);
        element(!stoodAtOnce(deed));
        return deed.worldThen.lack(deed.signers, deed.kind, sumOf(deed));
    }

    char lack(int number) {
        return lackText(number).charAt(0);
    }

    int lackPower(int number) {
        String[] parts = lackText(number).split(" ");
        element(parts.length == 3);
        return Integer.parseInt(parts[1]);
    }

    int lackDepth(int number) {
        String[] parts = lackText(number).split(" ");
        element(parts.length == 3);
        return Integer.parseInt(parts[2]);
    }

    int setWindow(int days) {
        argument(in(1, days, 99));
        int before = world.window;
        world.window = days;
        return before;
    }

    int pass(int days) {
        argument(in(1, days, 99) && world.day + days <= 999);
        world.day += days;
        return world.day;
    }

    int today() {
        return world.day;
    }

    long bound() {
        return deeds.stream().filter(each -> each.status == 's' || each.status == 'r').mapToLong(each -> each.amount).sum();
    }

    float standingShare() {
        element(!deeds.isEmpty());
        long standing = deeds.stream().filter(each -> each.status == 's' || each.status == 'r').count();
        return (float) standing / (float) deeds.size();
    }
}
