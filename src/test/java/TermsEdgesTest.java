/** The sentences of the document's terms about numbers, hands and signers that name a boundary case, each with a test of its own. */
public final class TermsEdgesTest {
    private static final Checks checks = new Checks("TermsEdgesTest");

    public static void main(String[] args) {
        personsInTheirOrder();
        presentAtFirst();
        powersInTheirOrder();
        whatAPowerHas();
        whatAHandIsFor();
        revokedAndLowered();
        deedsInTheirOrder();
        whatADeedHas();
        pairsOfAllHands();
        answersOfFault();
        noAnswerIsKept();
        checks.end();
    }

    private static void personsInTheirOrder() {
        checks.sentence("Terms: At most 8 persons have the numbers 0 to n - 1 in the order in which they were added.");
        Signatory book = new Signatory();
        for (int person = 0; person < 8; person++) {
            checks.due("person " + person, person, book::addPerson);
            book.leave(person, -1);
            book.grant(person, 0, 's', 1 + person, 0, 999);
            int each = person;
            checks.due("is who holds the power", true, () -> book.canSign(each, 0, each + 1));
            checks.due("and nobody else", 1, () -> book.signers(0, each + 1));
        }
        checks.state("no ninth", book::addPerson);
    }

    private static void presentAtFirst() {
        checks.sentence("Terms: A person is present, as at first, or absent, then perhaps with a substitute,"
                + " who is another person.");
        Signatory book = Books.with(8);
        for (int person = 0; person < 8; person++) {
            int each = person;
            checks.state("present at first " + person, () -> book.comeBack(each));
            for (int other = 0; other < 8; other++) {
                int substitute = other;
                if (other == person) {
                    checks.argument("not itself " + person, () -> book.leave(each, substitute));
                } else {
                    book.leave(person, other);
                    checks.due(person + " with " + other, true, () -> book.actsFor(substitute, each));
                    checks.due(person + " back from " + other, other, () -> book.comeBack(each));
                }
            }
        }
    }

    private static void powersInTheirOrder() {
        checks.sentence("Terms: At most 20 powers have the numbers 0 to n - 1 in the order in which they were made.");
        Signatory book = Books.with(2);
        for (int power = 0; power < 20; power += 2) {
            int each = power;
            checks.due("7: Returns the number of the new power. (after) " + power, power,
                    () -> book.grant(0, 0, 's', 100 + each, 0, 9));
            checks.due("7: Returns the number of the new power.", power + 1,
                    () -> book.delegate(each, 1, 50 + each, 0, 9));
        }
        for (int power = 0; power < 20; power += 2) {
            int each = power;
            checks.due("granted " + power, 100 + power, () -> book.limit(each));
            checks.due("delegated " + power, 50 + power, () -> book.limit(each + 1));
            checks.due("its source", power, () -> book.source(each + 1));
        }
        checks.state("no other granted", () -> book.grant(0, 0, 's', 1, 0, 9));
        checks.state("no other delegated", () -> book.delegate(18, 1, 1, 0, 9));
    }

    private static void whatAPowerHas() {
        checks.sentence("Terms: A power has a holder, a kind from 0 to 3, a hand, a limit, and a first and a last day.");
        Signatory book = Books.with(3);
        for (int kind = 0; kind < 4; kind++) {
            book.grant(1, kind, 's', 10 + kind, kind, kind + 1);
        }
        for (int day = 0; day < 6; day++) {
            for (int kind = 0; kind < 4; kind++) {
                int each = kind;
                boolean its = day == kind || day == kind + 1;
                checks.due("day " + day + ", kind " + kind, its, () -> book.canSign(1, each, 10 + each));
                checks.due("one more", false, () -> book.canSign(1, each, 11 + each));
                checks.due("the person before", false, () -> book.canSign(0, each, 1));
                checks.due("the person behind", false, () -> book.canSign(2, each, 1));
            }
            book.pass(1);
        }
    }

    private static void whatAHandIsFor() {
        checks.sentence("Terms: The hand is 's' for a power by which its holder signs alone, 'a' and 'b' for one by which"
                + " the holder signs together with somebody who acts by a power with the other one of these hands.");
        String hands = "sab";
        for (int one = 0; one < 3; one++) {
            Signatory book = Books.with(3);
            book.grant(0, 0, hands.charAt(one), 5, 0, 0);
            boolean alone = one == 0;
            checks.due("alone by " + hands.charAt(one), alone, () -> book.canSign(0, 0, 5));
            checks.due("with nobody's hand", alone, () -> book.canSignTogether(0, 1, 0, 5));
            for (int two = 0; two < 3; two++) {
                book.grant(1, two + 1, hands.charAt(two), 5, 0, 0);
                book.grant(0, two + 1, hands.charAt(one), 5, 0, 0);
                int kind = two + 1;
                boolean together = one == 0 || two == 0 || one != two;
                checks.due(hands.charAt(one) + " and " + hands.charAt(two), together,
                        () -> book.canSignTogether(0, 1, kind, 5));
                checks.due(hands.charAt(two) + " and " + hands.charAt(one), together,
                        () -> book.canSignTogether(1, 0, kind, 5));
            }
        }
    }

    private static void revokedAndLowered() {
        checks.sentence("Terms: A power can be revoked, and its limit lowered.");
        Signatory book = Books.full();
        for (int power = 0; power < 20; power++) {
            int each = power;
            checks.due("lowered " + power, 1000, () -> book.lower(each, 1000 - each));
            checks.due("its reach", 1000 - power, () -> book.reach(each));
        }
        for (int power = 0; power < 20; power++) {
            int each = power;
            checks.due("not yet revoked " + power, '-', () -> book.fault(each, 1));
            checks.due("revoked " + power, 1, () -> book.revoke(each));
            checks.due("its fault", 'v', () -> book.fault(each, 1));
            checks.due("its reach", 0, () -> book.reach(each));
        }
    }

    private static void deedsInTheirOrder() {
        checks.sentence("Terms: At most 24 deeds have the numbers 0 to n - 1 in the order in which they were signed.");
        Signatory book = Books.with(2);
        for (int deed = 0; deed < 24; deed += 2) {
            int each = deed;
            checks.due("alone " + deed, deed, () -> book.sign(0, each % 4, 10 + each, each % 10));
            checks.due("together", deed + 1, () -> book.signTogether(0, 1, each % 4, 50 + each, (each + 1) % 10));
        }
        for (int deed = 0; deed < 20; deed += 2) {
            int each = deed;
            checks.due("alone, its amount " + deed, 10 + deed, () -> book.sum(each));
            checks.due("together, its amount", 50 + deed, () -> book.sum(each + 1));
        }
        checks.state("no other alone", () -> book.sign(0, 0, 1, 0));
        checks.state("no other together", () -> book.signTogether(0, 1, 0, 1, 0));
    }

    private static void whatADeedHas() {
        checks.sentence("Terms: A deed has one or two signers, a kind, an amount, a party from 0 to 9"
                + " and the day on which it was signed.");
        Signatory book = Books.with(8);
        book.grant(0, 2, 's', 5, 0, 0);
        book.grant(7, 2, 's', 5, 0, 0);
        book.sign(1, 2, 5, 0);
        book.signTogether(1, 0, 2, 5, 1);
        book.signTogether(0, 1, 2, 5, 2);
        book.signTogether(6, 7, 2, 5, 8);
        book.sign(7, 2, 5, 9);
        checks.due("one signer who cannot", 'w', () -> book.status(0));
        checks.due("the person 0 as the other one", 's', () -> book.status(1));
        checks.due("the person 0 as the first one", 's', () -> book.status(2));
        checks.due("the person 7 as the other one", 's', () -> book.status(3));
        checks.due("the person 7 alone", 's', () -> book.status(4));
        book.pass(99);
        for (int deed = 0; deed < 5; deed++) {
            int each = deed;
            checks.due("by the papers " + deed, deed != 0, () -> book.standsByPapers(each));
        }
    }

    /** All of 4096 ways to give four persons the hands s, a and b. */
    private static void pairsOfAllHands() {
        checks.sentence("19: Returns the same number, found by trying all pairs.");
        for (int way = 0; way < 4096; way++) {
            Signatory book = Books.with(4);
            for (int bit = 0; bit < 12; bit++) {
                if ((way >> bit & 1) != 0) {
                    book.grant(bit / 3, 0, "sab".charAt(bit % 3), 1, 0, 0);
                }
            }
            int due = 0;
            for (int one = 0; one < 4; one++) {
                for (int two = one + 1; two < 4; two++) {
                    due += together(way >> one * 3 & 7, way >> two * 3 & 7) ? 1 : 0;
                }
            }
            checks.due("pairs of way " + way, due, () -> book.pairs(0, 1));
            checks.due("by trying", due, () -> book.pairsByTrying(0, 1));
        }
    }

    private static boolean together(int one, int two) {
        boolean alone = one % 2 == 1 || two % 2 == 1;
        return alone || one / 2 % 2 == 1 && two / 4 == 1 || two / 2 % 2 == 1 && one / 4 == 1;
    }

    private static void answersOfFault() {
        checks.sentence("12: Returns 'd', 'v' or 'l', or '-' for none.");
        Signatory book = Books.with(1);
        book.grant(0, 0, 's', 99999, 0, 0);
        book.grant(0, 0, 's', 99998, 0, 0);
        book.grant(0, 0, 's', 99999, 1, 1);
        book.grant(0, 0, 's', 99999, 0, 0);
        book.revoke(3);
        checks.due("none", '-', () -> book.fault(0, 99999));
        checks.due("the limit", 'l', () -> book.fault(1, 99999));
        checks.due("the day", 'd', () -> book.fault(2, 99999));
        checks.due("revoked", 'v', () -> book.fault(3, 99999));
        checks.sentence("13: Returns the number of steps.");
        checks.noElement("none", () -> book.faultDepth(0, 99999));
        checks.due("the limit", 0, () -> book.faultDepth(1, 99999));
        checks.due("the day", 0, () -> book.faultDepth(2, 99999));
        checks.due("revoked", 0, () -> book.faultDepth(3, 99999));
    }

    private static void noAnswerIsKept() {
        checks.sentence("26: Returns the same sum, found from all deeds and the window by the papers.");
        Signatory book = Books.with(2);
        book.grant(0, 0, 's', 9, 0, 9);
        book.sign(0, 0, 5, 0);
        book.sign(1, 0, 4, 0);
        for (int again = 0; again < 3; again++) {
            checks.due("the first", 5, () -> book.sumByPapers(0));
            checks.due("the second", 9, () -> book.sumByPapers(1));
            checks.due("the first stands", true, () -> book.standsByPapers(0));
            checks.due("the second does not", false, () -> book.standsByPapers(1));
            checks.due("looking back lets no day pass", again, book::today);
            checks.due("looking back lowers nothing", 9, () -> book.reach(0));
            checks.due("nor is anybody absent", 1, () -> book.signers(0, 9));
            book.pass(1);
        }
        checks.due("looking back changes no window", 30, () -> book.setWindow(1));
    }
}
