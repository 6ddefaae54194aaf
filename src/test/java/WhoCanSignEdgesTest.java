/** The sentences of promises 15 to 19, and those about signing, that name a boundary case, each with a test of its own. */
public final class WhoCanSignEdgesTest {
    private static final Checks checks = new Checks("WhoCanSignEdgesTest");

    public static void main(String[] args) {
        signsAlone();
        actsByPowers();
        noSuchPersonAlone();
        kindsAndSumsAlone();
        signTogether();
        noSuchPersonTogether();
        kindsAndSumsTogether();
        bothTheSame();
        numberOfSigners();
        kindsAndSumsOfSigners();
        numberOfPairs();
        pairsOfTwoHands();
        pairsOfBothHands();
        kindsAndSumsOfPairs();
        kindsAndSumsOfPairsByTrying();
        checks.end();
    }

    private static void signsAlone() {
        checks.sentence("Terms: Somebody can sign a sum of a kind alone who acts by a power of this kind"
                + " with the hand 's' that has no fault.");
        Signatory book = Books.with(3);
        book.grant(0, 3, 's', 50, 1, 2);
        book.grant(1, 3, 'a', 50, 0, 999);
        book.grant(1, 3, 'b', 50, 0, 999);
        checks.due("a day ahead", false, () -> book.canSign(0, 3, 50));
        book.pass(1);
        checks.due("the first day, the limit", true, () -> book.canSign(0, 3, 50));
        checks.due("one more", false, () -> book.canSign(0, 3, 51));
        checks.due("the kind before", false, () -> book.canSign(0, 2, 50));
        checks.due("both other hands", false, () -> book.canSign(1, 3, 1));
        checks.due("no power", false, () -> book.canSign(2, 3, 1));
        book.pass(1);
        checks.due("the last day", true, () -> book.canSign(0, 3, 50));
        book.pass(1);
        checks.due("a day behind", false, () -> book.canSign(0, 3, 50));
        book.grant(0, 3, 's', 60, 3, 3);
        checks.due("another power", true, () -> book.canSign(0, 3, 60));
        book.revoke(3);
        checks.due("revoked", false, () -> book.canSign(0, 3, 1));
    }

    private static void actsByPowers() {
        checks.sentence("Terms: A person, present or absent, acts by the powers that the person holds,"
                + " and by those that are held by an absent person whose substitute the person is.");
        Signatory book = Books.with(4);
        book.grant(0, 0, 's', 50, 0, 999);
        book.grant(1, 0, 's', 40, 0, 999);
        checks.due("held", true, () -> book.canSign(0, 0, 50));
        checks.due("no substitute yet", false, () -> book.canSign(1, 0, 50));
        book.leave(0, 1);
        checks.due("held by one who is absent", true, () -> book.canSign(0, 0, 50));
        checks.due("the substitute", true, () -> book.canSign(1, 0, 50));
        book.leave(1, 2);
        checks.due("a substitute who is absent", true, () -> book.canSign(1, 0, 50));
        checks.due("the substitute's substitute, by what the substitute holds", true, () -> book.canSign(2, 0, 40));
        checks.due("the substitute's substitute, not by two steps", false, () -> book.canSign(2, 0, 41));
        book.leave(2, 0);
        checks.due("a ring of substitutes", false, () -> book.canSign(2, 0, 41));
        checks.due("somebody else", false, () -> book.canSign(3, 0, 1));
        book.leave(0, -1);
        checks.due("no substitute any more", false, () -> book.canSign(1, 0, 41));
        checks.due("one's own is left", true, () -> book.canSign(1, 0, 40));
    }

    private static void noSuchPersonAlone() {
        checks.sentence("15: Throws `IndexOutOfBoundsException` if there is no such person");
        Signatory book = Books.with(3);
        book.leave(0, -1);
        book.grant(0, 0, 's', 50, 0, 999);
        for (int wrong : Books.outside(0, 2)) {
            checks.index("person " + wrong, () -> book.canSign(wrong, 0, 1));
        }
        checks.due("the first person", true, () -> book.canSign(0, 0, 1));
        checks.due("the last person", false, () -> book.canSign(2, 0, 1));
        checks.index("the empty book", () -> new Signatory().canSign(0, 0, 1));
        Signatory full = Books.full();
        checks.due("the full book, person 7", true, () -> full.canSign(7, 3, 1000));
        checks.index("the full book, person 8", () -> full.canSign(8, 3, 1000));
    }

    private static void kindsAndSumsAlone() {
        checks.sentence("15: Throws `IllegalArgumentException` if there is no such kind,"
                + " or the sum is not between 1 and 99999");
        Signatory book = bookOfAllKinds();
        for (int wrong : Books.outside(0, 3)) {
            checks.argument("kind " + wrong, () -> book.canSign(0, wrong, 1));
        }
        for (int wrong : Books.outside(1, 99999)) {
            checks.argument("sum " + wrong, () -> book.canSign(0, 0, wrong));
        }
        checks.due("kind 0, sum 1", true, () -> book.canSign(0, 0, 1));
        checks.due("kind 3, sum 99999", true, () -> book.canSign(0, 3, 99999));
    }

    /** Person 0 of two can sign every sum of every kind. */
    private static Signatory bookOfAllKinds() {
        Signatory book = Books.with(2);
        for (int kind = 0; kind < 4; kind++) {
            book.grant(0, kind, 's', 99999, 0, 999);
        }
        return book;
    }

    private static void signTogether() {
        checks.sentence("Terms: Two persons can sign it together if one of them can sign it alone, or if one of them acts"
                + " by such a power with the hand 'a', and the other one by such a power with the hand 'b'.");
        Signatory book = Books.with(6);
        book.grant(0, 1, 's', 30, 0, 999);
        book.grant(1, 1, 'a', 50, 0, 999);
        book.grant(2, 1, 'b', 40, 0, 999);
        book.grant(3, 1, 'a', 50, 0, 999);
        book.grant(3, 1, 'b', 50, 0, 999);
        checks.due("one alone, the limit", true, () -> book.canSignTogether(0, 5, 1, 30));
        checks.due("the other one alone, the limit", true, () -> book.canSignTogether(5, 0, 1, 30));
        checks.due("alone, one more", false, () -> book.canSignTogether(0, 5, 1, 31));
        checks.due("a and b, the lesser limit", true, () -> book.canSignTogether(1, 2, 1, 40));
        checks.due("b and a, the lesser limit", true, () -> book.canSignTogether(2, 1, 1, 40));
        checks.due("a and b, one more", false, () -> book.canSignTogether(1, 2, 1, 41));
        checks.due("another kind", false, () -> book.canSignTogether(1, 2, 2, 1));
        checks.due("a and both", true, () -> book.canSignTogether(1, 3, 1, 50));
        checks.due("both and b", true, () -> book.canSignTogether(3, 2, 1, 40));
        checks.due("both and none", false, () -> book.canSignTogether(3, 4, 1, 1));
        checks.due("none and none", false, () -> book.canSignTogether(4, 5, 1, 1));
        checks.due("s and a, above the limit of s", false, () -> book.canSignTogether(0, 1, 1, 31));
        checks.due("s and b, above the limit of s", false, () -> book.canSignTogether(0, 2, 1, 31));
        book.leave(3, 4);
        checks.due("both, as a substitute and as the absent one", true, () -> book.canSignTogether(3, 4, 1, 50));
        checks.due("a substitute of both with none", false, () -> book.canSignTogether(4, 5, 1, 1));
    }

    private static void noSuchPersonTogether() {
        checks.sentence("16: Throws `IndexOutOfBoundsException` if there is no such person, for either");
        Signatory book = Books.with(3);
        for (int wrong : Books.outside(0, 2)) {
            checks.index("the person " + wrong, () -> book.canSignTogether(wrong, 0, 0, 1));
            checks.index("the other one " + wrong, () -> book.canSignTogether(0, wrong, 0, 1));
            checks.index("both " + wrong, () -> book.canSignTogether(wrong, wrong, 0, 1));
        }
        checks.due("the first and the last", false, () -> book.canSignTogether(0, 2, 0, 1));
        checks.due("the last and the first", false, () -> book.canSignTogether(2, 0, 0, 1));
        checks.index("the empty book", () -> new Signatory().canSignTogether(0, 1, 0, 1));
        checks.index("one person alone", () -> Books.with(1).canSignTogether(0, 1, 0, 1));
        Signatory full = Books.full();
        checks.due("the full book, person 7", true, () -> full.canSignTogether(7, 0, 3, 1));
        checks.index("the full book, person 8", () -> full.canSignTogether(8, 0, 3, 1));
        checks.index("the full book, other one 8", () -> full.canSignTogether(0, 8, 3, 1));
    }

    private static void kindsAndSumsTogether() {
        checks.sentence("16: Throws `IllegalArgumentException` if there is no such kind,"
                + " or the sum is not between 1 and 99999");
        Signatory book = bookOfAllKinds();
        for (int wrong : Books.outside(0, 3)) {
            checks.argument("kind " + wrong, () -> book.canSignTogether(0, 1, wrong, 1));
        }
        for (int wrong : Books.outside(1, 99999)) {
            checks.argument("sum " + wrong, () -> book.canSignTogether(0, 1, 0, wrong));
        }
        checks.due("kind 0, sum 1", true, () -> book.canSignTogether(0, 1, 0, 1));
        checks.due("kind 3, sum 99999", true, () -> book.canSignTogether(1, 0, 3, 99999));
    }

    private static void bothTheSame() {
        checks.sentence("16: Throws `UnsupportedOperationException` if both are the same");
        Signatory book = Books.full();
        for (int person = 0; person < 8; person++) {
            int each = person;
            checks.unsupported("person " + person, () -> book.canSignTogether(each, each, each % 4, 1));
        }
        checks.unsupported("who cannot sign it", () -> book.canSignTogether(0, 0, 3, 99999));
        checks.due("two are not the same", true, () -> book.canSignTogether(0, 1, 0, 1));
    }

    private static void numberOfSigners() {
        checks.sentence("17: Returns the number of persons.");
        Signatory book = Books.with(8);
        checks.due("no powers", 0, () -> book.signers(2, 1));
        for (int person = 0; person < 8; person++) {
            book.grant(person, 2, 's', 100 + person, 0, 0);
            checks.due("powers of " + (person + 1), person + 1, () -> book.signers(2, 100));
        }
        checks.due("the limit of the last", 1, () -> book.signers(2, 107));
        checks.due("one more", 0, () -> book.signers(2, 108));
        book.grant(7, 2, 's', 107, 0, 0);
        checks.due("a second power of the same person", 1, () -> book.signers(2, 107));
        book.leave(7, 0);
        checks.due("the absent person and the substitute", 2, () -> book.signers(2, 107));
        checks.due("the kind before", 0, () -> book.signers(1, 1));
        checks.due("the kind behind", 0, () -> book.signers(3, 1));
        book.pass(1);
        checks.due("a day behind the last", 0, () -> book.signers(2, 1));
    }

    private static void kindsAndSumsOfSigners() {
        checks.sentence("17: Throws `IllegalArgumentException` if there is no such kind,"
                + " or the sum is not between 1 and 99999");
        Signatory book = bookOfAllKinds();
        Signatory empty = new Signatory();
        for (int wrong : Books.outside(0, 3)) {
            checks.argument("kind " + wrong, () -> book.signers(wrong, 1));
            checks.argument("kind " + wrong + ", the empty book", () -> empty.signers(wrong, 1));
        }
        for (int wrong : Books.outside(1, 99999)) {
            checks.argument("sum " + wrong, () -> book.signers(0, wrong));
            checks.argument("sum " + wrong + ", the empty book", () -> empty.signers(0, wrong));
        }
        checks.due("kind 0, sum 1", 1, () -> book.signers(0, 1));
        checks.due("kind 3, sum 99999", 1, () -> book.signers(3, 99999));
        checks.due("the empty book", 0, () -> empty.signers(0, 1));
    }

    private static void pairsAre(String what, int want, Signatory book, int kind, int sum) {
        checks.due(what, want, () -> book.pairs(kind, sum));
        checks.due(what + ", by trying", want, () -> book.pairsByTrying(kind, sum));
    }

    private static void numberOfPairs() {
        checks.sentence("18: Returns the number of pairs. (one alone)");
        Signatory book = new Signatory();
        pairsAre("nobody", 0, book, 0, 1);
        book.addPerson();
        book.grant(0, 0, 's', 100, 0, 0);
        pairsAre("one person", 0, book, 0, 1);
        int[] due = {0, 0, 1, 2, 3, 4, 5, 6, 7};
        for (int persons = 2; persons <= 8; persons++) {
            book.addPerson();
            pairsAre("one alone of " + persons, due[persons], book, 0, 100);
        }
        int[] dueOfAlone = {0, 7, 13, 18, 22, 25, 27, 28, 28};
        for (int alone = 2; alone <= 8; alone++) {
            book.grant(alone - 1, 0, 's', 100, 0, 0);
            pairsAre(alone + " alone of 8", dueOfAlone[alone], book, 0, 100);
        }
        pairsAre("one more than the limit", 0, book, 0, 101);
        pairsAre("another kind", 0, book, 1, 1);
        book.pass(1);
        pairsAre("a day behind the last", 0, book, 0, 1);
    }

    private static void pairsOfTwoHands() {
        checks.sentence("18: Returns the number of pairs. (two hands)");
        Signatory book = Books.with(8);
        for (int person = 0; person < 4; person++) {
            book.grant(person, 3, 'a', 100, 0, 0);
        }
        pairsAre("a alone", 0, book, 3, 1);
        for (int person = 4; person < 8; person++) {
            book.grant(person, 3, 'b', 90, 0, 0);
            pairsAre("a of 4 and b of " + (person - 3), 4 * (person - 3), book, 3, 90);
        }
        pairsAre("one more than the lesser limit", 0, book, 3, 91);
        book.grant(0, 3, 's', 90, 0, 0);
        pairsAre("one of a alone", 19, book, 3, 90);
    }

    private static void pairsOfBothHands() {
        checks.sentence("18: Returns the number of pairs. (both hands)");
        Signatory book = Books.with(8);
        int[] due = {0, 0, 1, 3, 6, 10, 15, 21, 28};
        for (int person = 0; person < 8; person++) {
            book.grant(person, 0, 'a', 100, 0, 0);
            book.grant(person, 0, 'b', 100, 0, 0);
            pairsAre("both hands of " + (person + 1), due[person + 1], book, 0, 100);
        }
        pairsAre("one more than the limit", 0, book, 0, 101);
    }

    private static void kindsAndSumsOfPairs() {
        checks.sentence("18: Throws `IllegalArgumentException` if there is no such kind,"
                + " or the sum is not between 1 and 99999");
        Signatory book = bookOfAllKinds();
        Signatory empty = new Signatory();
        for (int wrong : Books.outside(0, 3)) {
            checks.argument("kind " + wrong, () -> book.pairs(wrong, 1));
            checks.argument("kind " + wrong + ", the empty book", () -> empty.pairs(wrong, 1));
        }
        for (int wrong : Books.outside(1, 99999)) {
            checks.argument("sum " + wrong, () -> book.pairs(0, wrong));
            checks.argument("sum " + wrong + ", the empty book", () -> empty.pairs(0, wrong));
        }
        checks.due("kind 0, sum 1", 1, () -> book.pairs(0, 1));
        checks.due("kind 3, sum 99999", 1, () -> book.pairs(3, 99999));
    }

    private static void kindsAndSumsOfPairsByTrying() {
        checks.sentence("19: Throws `IllegalArgumentException` if there is no such kind,"
                + " or the sum is not between 1 and 99999");
        Signatory book = bookOfAllKinds();
        Signatory empty = new Signatory();
        for (int wrong : Books.outside(0, 3)) {
            checks.argument("kind " + wrong, () -> book.pairsByTrying(wrong, 1));
            checks.argument("kind " + wrong + ", the empty book", () -> empty.pairsByTrying(wrong, 1));
        }
        for (int wrong : Books.outside(1, 99999)) {
            checks.argument("sum " + wrong, () -> book.pairsByTrying(0, wrong));
            checks.argument("sum " + wrong + ", the empty book", () -> empty.pairsByTrying(0, wrong));
        }
        checks.due("kind 0, sum 1", 1, () -> book.pairsByTrying(0, 1));
        checks.due("kind 3, sum 99999", 1, () -> book.pairsByTrying(3, 99999));
    }
}
