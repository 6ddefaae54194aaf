/** The sentences of promises 20 to 24 and 32, and of windows and sums, that name a boundary case, each with a test of its own. */
public final class DeedsEdgesTest {
    private static final Checks checks = new Checks("DeedsEdgesTest");

    public static void main(String[] args) {
        numberOfTheDeed();
        noSuchSigner();
        argumentsToSign();
        twentyFourDeedsAlone();
        numberOfTheDeedOfTwo();
        noSuchSignerOfTwo();
        argumentsToSignTogether();
        bothSignersTheSame();
        twentyFourDeedsTogether();
        standsWhenSigned();
        ratifiedByWhoCanSign();
        noSuchDeedOrRatifier();
        ratifyingADeedThatDoesNotWait();
        ratifierCannotSign();
        numberOfWaitingDeeds();
        noSuchDeedToAnnul();
        annullingADeedThatDoesNotWait();
        statusOfADeed();
        noSuchDeedToAsk();
        windowBefore();
        windowDays();
        checks.end();
    }

    /** Person 0 of three signs alone up to 9999 on days 0 to 999, all kinds. */
    private static Signatory plainBook() {
        Signatory book = Books.with(3);
        for (int kind = 0; kind < 4; kind++) {
            book.grant(0, kind, 's', 9999, 0, 999);
        }
        return book;
    }

    private static void numberOfTheDeed() {
        checks.sentence("20: Returns the number of the deed.");
        Signatory book = plainBook();
        for (int deed = 0; deed < 24; deed++) {
            int each = deed;
            checks.index("deed " + deed + " is not there yet", () -> book.sum(each));
            checks.due("the number", deed, () -> book.sign(each % 3, each % 4, 1 + each, each % 10));
            checks.due("deed " + deed + " is there", each % 3 == 0 ? 's' : 'w', () -> book.status(each));
        }
    }

    private static void noSuchSigner() {
        checks.sentence("20: Throws `IndexOutOfBoundsException` if there is no such person");
        Signatory book = plainBook();
        book.leave(0, -1);
        for (int wrong : Books.outside(0, 2)) {
            checks.index("person " + wrong, () -> book.sign(wrong, 0, 1, 0));
        }
        checks.due("the first person", 0, () -> book.sign(0, 0, 1, 0));
        checks.due("the last person", 1, () -> book.sign(2, 0, 1, 0));
        checks.due("the first signed it", 's', () -> book.status(0));
        checks.due("the last signed it", 'w', () -> book.status(1));
        checks.index("the empty book", () -> new Signatory().sign(0, 0, 1, 0));
        checks.index("the full book, person 8", () -> Books.full().sign(8, 0, 1, 0));
        Signatory eight = Books.with(8);
        checks.index("person 8 of 8", () -> eight.sign(8, 0, 1, 0));
        checks.due("person 7 of 8", 0, () -> eight.sign(7, 0, 1, 0));
    }

    private static void argumentsToSign() {
        checks.sentence("20: Throws `IllegalArgumentException` if there is no such kind or party,"
                + " or the amount is not between 1 and 9999");
        Signatory book = plainBook();
        for (int wrong : Books.outside(0, 3)) {
            checks.argument("kind " + wrong, () -> book.sign(0, wrong, 1, 0));
        }
        for (int wrong : Books.outside(0, 9)) {
            checks.argument("party " + wrong, () -> book.sign(0, 0, 1, wrong));
        }
        for (int wrong : Books.outside(1, 9999)) {
            checks.argument("amount " + wrong, () -> book.sign(0, 0, wrong, 0));
        }
        checks.due("kind 0, party 0, amount 1", 0, () -> book.sign(0, 0, 1, 0));
        checks.due("kind 3, party 9, amount 9999", 1, () -> book.sign(0, 3, 9999, 9));
        checks.due("its sum is 1", 1, () -> book.sum(0));
        checks.due("its sum is 9999", 9999, () -> book.sum(1));
        for (int kind = 0; kind < 4; kind++) {
            int each = kind;
            book.sign(0, kind, 5, 5);
            checks.due("a deed of kind " + kind, 5, () -> book.sum(2 + each));
        }
        for (int party = 1; party < 9; party++) {
            int each = party;
            book.sign(0, 0, 100, party);
            checks.due("with party " + party, party == 5 ? 105 : 100, () -> book.sum(5 + each));
        }
    }

    private static void twentyFourDeedsAlone() {
        checks.sentence("20: Throws `IllegalStateException` if there are 24 deeds");
        Signatory book = plainBook();
        for (int deed = 0; deed < 23; deed++) {
            book.sign(1, 0, 1, 0);
        }
        checks.due("there are 23", 23, () -> book.sign(1, 0, 1, 0));
        checks.state("there are 24", () -> book.sign(1, 0, 1, 0));
        checks.state("one that would stand", () -> book.sign(0, 3, 1, 9));
        checks.due("annulled", 23, () -> book.annul(23));
        checks.state("an annulled one makes no room", () -> book.sign(1, 0, 1, 0));
        book.pass(99);
        checks.state("nor do those of long ago", () -> book.sign(1, 0, 1, 0));
        checks.due("the 24th is there", 24, () -> book.sum(23));
        checks.index("no other one", () -> book.sum(24));
        checks.due("the others wait still", 22, () -> book.annul(0));
    }

    private static void numberOfTheDeedOfTwo() {
        checks.sentence("21: Returns the number of the deed.");
        Signatory book = plainBook();
        for (int deed = 0; deed < 24; deed++) {
            int each = deed;
            checks.index("deed " + deed + " is not there yet", () -> book.status(each));
            checks.due("the number", deed, () -> book.signTogether(each % 3, (each + 1) % 3, 0, 1, each % 10));
            checks.due("deed " + deed + " is there", each % 3 == 1 ? 'w' : 's', () -> book.status(each));
        }
    }

    private static void noSuchSignerOfTwo() {
        checks.sentence("21: Throws `IndexOutOfBoundsException` if there is no such person, for either");
        Signatory book = plainBook();
        for (int wrong : Books.outside(0, 2)) {
            checks.index("the person " + wrong, () -> book.signTogether(wrong, 0, 0, 1, 0));
            checks.index("the other one " + wrong, () -> book.signTogether(0, wrong, 0, 1, 0));
            checks.index("both " + wrong, () -> book.signTogether(wrong, wrong, 0, 1, 0));
        }
        checks.due("the first and the last", 0, () -> book.signTogether(0, 2, 0, 1, 0));
        checks.due("the last and the first", 1, () -> book.signTogether(2, 0, 0, 1, 0));
        checks.index("the empty book", () -> new Signatory().signTogether(0, 1, 0, 1, 0));
        checks.index("one person alone", () -> Books.with(1).signTogether(0, 1, 0, 1, 0));
        Signatory eight = Books.with(8);
        checks.index("person 8 of 8", () -> eight.signTogether(8, 0, 0, 1, 0));
        checks.index("other one 8 of 8", () -> eight.signTogether(0, 8, 0, 1, 0));
        checks.due("other one 7 of 8", 0, () -> eight.signTogether(0, 7, 0, 1, 0));
    }

    private static void argumentsToSignTogether() {
        checks.sentence("21: Throws `IllegalArgumentException` if there is no such kind or party,"
                + " or the amount is not between 1 and 9999");
        Signatory book = plainBook();
        for (int wrong : Books.outside(0, 3)) {
            checks.argument("kind " + wrong, () -> book.signTogether(0, 1, wrong, 1, 0));
        }
        for (int wrong : Books.outside(0, 9)) {
            checks.argument("party " + wrong, () -> book.signTogether(0, 1, 0, 1, wrong));
        }
        for (int wrong : Books.outside(1, 9999)) {
            checks.argument("amount " + wrong, () -> book.signTogether(0, 1, 0, wrong, 0));
        }
        checks.due("kind 0, party 0, amount 1", 0, () -> book.signTogether(0, 1, 0, 1, 0));
        checks.due("kind 3, party 9, amount 9999", 1, () -> book.signTogether(0, 1, 3, 9999, 9));
        checks.due("its sum is 1", 1, () -> book.sum(0));
        checks.due("its sum is 9999", 9999, () -> book.sum(1));
    }

    private static void bothSignersTheSame() {
        checks.sentence("21: Throws `UnsupportedOperationException` if both are the same");
        Signatory book = Books.with(8);
        for (int person = 0; person < 8; person++) {
            int each = person;
            checks.unsupported("person " + person, () -> book.signTogether(each, each, 0, 1, 0));
        }
        book.grant(0, 0, 's', 9999, 0, 999);
        checks.unsupported("who could sign alone", () -> book.signTogether(0, 0, 0, 1, 0));
        checks.due("refused calls made no deed", 0, () -> book.signTogether(0, 1, 0, 1, 0));
        checks.due("nor a greater sum", 1, () -> book.sum(0));
    }

    private static void twentyFourDeedsTogether() {
        checks.sentence("21: Throws `IllegalStateException` if there are 24 deeds");
        Signatory book = plainBook();
        for (int deed = 0; deed < 23; deed++) {
            book.sign(1, 0, 1, 0);
        }
        checks.due("there are 23", 23, () -> book.signTogether(1, 2, 0, 1, 0));
        checks.state("there are 24", () -> book.signTogether(1, 2, 0, 1, 0));
        checks.state("one that would stand", () -> book.signTogether(0, 1, 3, 1, 9));
        book.annul(0);
        checks.state("an annulled one makes no room", () -> book.signTogether(1, 2, 0, 1, 0));
        checks.due("the 24th is there", 24, () -> book.sum(23));
        checks.index("no other one", () -> book.sum(24));
    }

    private static void standsWhenSigned() {
        checks.sentence("Terms: A deed stands when it is signed if its signers, as they are told,"
                + " can sign its sum on this day; otherwise it waits.");
        Signatory book = Books.with(4);
        book.grant(0, 0, 's', 50, 1, 2);
        book.grant(1, 0, 'a', 60, 0, 999);
        book.grant(2, 0, 'b', 60, 0, 999);
        deedIs(book, book.sign(0, 0, 50, 0), 'w', "a day ahead");
        book.pass(1);
        deedIs(book, book.sign(0, 0, 50, 1), 's', "the first day, the limit");
        deedIs(book, book.sign(0, 0, 1, 1), 'w', "the sum is one more than the limit");
        deedIs(book, book.sign(1, 0, 1, 2), 'w', "one signer with the hand a");
        deedIs(book, book.signTogether(1, 2, 0, 60, 3), 's', "a and b, the limit");
        deedIs(book, book.signTogether(2, 1, 0, 1, 3), 'w', "b and a, one more");
        deedIs(book, book.signTogether(3, 0, 0, 50, 4), 's', "the other signer alone, the limit");
        deedIs(book, book.signTogether(0, 3, 0, 51, 5), 'w', "the first signer alone, one more");
        deedIs(book, book.sign(3, 0, 1, 6), 'w', "another one could, but did not sign");
        book.pass(1);
        deedIs(book, book.sign(0, 0, 50, 7), 's', "the last day");
        book.pass(1);
        deedIs(book, book.sign(0, 0, 1, 8), 'w', "a day behind");
    }

    private static void deedIs(Signatory book, int deed, char status, String what) {
        checks.due(what, status, () -> book.status(deed));
        checks.due(what + ", whether it stands", status == 's' || status == 'r', () -> book.stands(deed));
        checks.due(what + ", by the papers", status == 's' || status == 'r', () -> book.standsByPapers(deed));
    }

    private static void ratifiedByWhoCanSign() {
        checks.sentence("Terms: A deed that waits stands when it is ratified by somebody who can sign its sum alone then.");
        Signatory book = Books.with(3);
        for (int deed = 0; deed < 4; deed++) {
            book.sign(0, 0, 10, 0);
        }
        book.grant(1, 0, 's', 30, 5, 6);
        Books.passTo(book, 5);
        checks.due("the first day, the limit", 30, () -> book.ratify(2, 1));
        deedIs(book, 2, 'r', "ratified");
        deedIs(book, 1, 'w', "not the one ahead of it");
        deedIs(book, 3, 'w', "not the one behind it");
        book.leave(1, 2);
        book.pass(1);
        checks.due("the last day, by a substitute", 20, () -> book.ratify(1, 2));
        deedIs(book, 1, 'r', "ratified by a substitute");
        book.pass(1);
        checks.unsupported("a day behind", () -> book.ratify(0, 1));
        deedIs(book, 0, 'w', "refused");
    }

    private static void noSuchDeedOrRatifier() {
        checks.sentence("22: Throws `IndexOutOfBoundsException` if there is no such deed or person");
        Signatory book = plainBook();
        for (int deed = 0; deed < 3; deed++) {
            book.sign(1, 0, 10, 0);
        }
        for (int wrong : Books.outside(0, 2)) {
            checks.index("deed " + wrong, () -> book.ratify(wrong, 0));
            checks.index("person " + wrong, () -> book.ratify(0, wrong));
            checks.index("both " + wrong, () -> book.ratify(wrong, wrong));
        }
        checks.due("the first deed", 10, () -> book.ratify(0, 0));
        checks.due("the last deed", 30, () -> book.ratify(2, 0));
        checks.unsupported("the last person", () -> book.ratify(1, 2));
        checks.index("the empty book", () -> new Signatory().ratify(0, 0));
        checks.index("persons, but no deeds", () -> plainBook().ratify(0, 0));
        Signatory full = Books.full();
        checks.index("the full book, deed 24", () -> full.ratify(24, 0));
        checks.index("the full book, person 8", () -> full.ratify(0, 8));
        checks.state("the full book, deed 23", () -> full.ratify(23, 7));
    }

    private static void ratifyingADeedThatDoesNotWait() {
        checks.sentence("22: Throws `IllegalStateException` if the deed does not wait");
        Signatory book = bookOfAllStatuses();
        checks.state("it stands", () -> book.ratify(0, 0));
        checks.state("it was ratified", () -> book.ratify(2, 0));
        checks.state("it was annulled", () -> book.ratify(3, 0));
        checks.due("it waits", 20, () -> book.ratify(1, 0));
        checks.state("it waits no more", () -> book.ratify(1, 0));
        deedIs(book, 3, 'n', "refused, so annulled still");
        deedIs(book, 0, 's', "refused, so it has stood since it was signed");
    }

    /** Deed 0 stands, 1 waits, 2 was ratified and 3 annulled; person 0 can sign all of their sums. */
    private static Signatory bookOfAllStatuses() {
        Signatory book = plainBook();
        book.sign(0, 0, 10, 0);
        book.sign(1, 0, 20, 1);
        book.sign(1, 0, 30, 2);
        book.sign(1, 0, 40, 3);
        book.ratify(2, 0);
        book.annul(3);
        return book;
    }

    private static void ratifierCannotSign() {
        checks.sentence("22: Throws `UnsupportedOperationException` if the person cannot sign its sum alone today");
        Signatory book = Books.with(3);
        book.sign(0, 1, 9999, 0);
        book.sign(0, 1, 1, 0);
        book.sign(0, 1, 1, 0);
        book.grant(1, 1, 's', 10000, 1, 1);
        book.grant(2, 1, 'a', 99999, 0, 999);
        book.grant(2, 1, 'b', 99999, 0, 999);
        book.grant(2, 0, 's', 99999, 0, 999);
        checks.unsupported("a day ahead", () -> book.ratify(1, 1));
        book.pass(1);
        checks.unsupported("the sum is one more than the limit", () -> book.ratify(2, 1));
        checks.unsupported("both other hands, and another kind", () -> book.ratify(1, 2));
        checks.unsupported("no power", () -> book.ratify(1, 0));
        checks.due("it waits still", 'w', () -> book.status(1));
        checks.due("the sum is the limit", 10000, () -> book.ratify(1, 1));
        Signatory great = Books.with(1);
        for (int deed = 0; deed < 11; deed++) {
            great.sign(0, 0, 9999, 0);
        }
        great.grant(0, 0, 's', 99999, 0, 999);
        checks.unsupported("a sum above every limit", () -> great.ratify(10, 0));
        checks.due("the greatest sum below", 99990, () -> great.ratify(9, 0));
    }

    private static void numberOfWaitingDeeds() {
        checks.sentence("23: Returns the number of deeds that wait then.");
        Signatory book = plainBook();
        for (int deed = 0; deed < 24; deed++) {
            book.sign(1, 0, 1, 0);
        }
        for (int deed = 0; deed < 24; deed++) {
            int each = deed;
            checks.due("annulled up to " + deed, 23 - deed, () -> book.annul(each));
        }
        Signatory mixed = bookOfAllStatuses();
        checks.due("those that stand, were ratified or annulled do not wait", 0, () -> mixed.annul(1));
    }

    private static void noSuchDeedToAnnul() {
        checks.sentence("23: Throws `IndexOutOfBoundsException` if there is no such deed");
        Signatory book = plainBook();
        for (int deed = 0; deed < 3; deed++) {
            book.sign(1, 0, 10, 0);
        }
        for (int wrong : Books.outside(0, 2)) {
            checks.index("deed " + wrong, () -> book.annul(wrong));
        }
        checks.due("the first", 2, () -> book.annul(0));
        checks.due("the last", 1, () -> book.annul(2));
        checks.index("the empty book", () -> new Signatory().annul(0));
        Signatory full = Books.full();
        checks.index("the full book, deed 24", () -> full.annul(24));
        checks.state("the full book, deed 23", () -> full.annul(23));
    }

    private static void annullingADeedThatDoesNotWait() {
        checks.sentence("23: Throws `IllegalStateException` if it does not wait");
        Signatory book = bookOfAllStatuses();
        checks.state("it stands", () -> book.annul(0));
        checks.state("it was ratified", () -> book.annul(2));
        checks.state("it was annulled", () -> book.annul(3));
        deedIs(book, 0, 's', "refused, so it stands");
        deedIs(book, 2, 'r', "refused, so ratified");
        book.sign(0, 0, 1, 0);
        checks.due("refused, so it is added still", 11, () -> book.sum(4));
        checks.due("it waits", 0, () -> book.annul(1));
        checks.state("it waits no more", () -> book.annul(1));
    }

    private static void statusOfADeed() {
        checks.sentence("24: Returns 's' if it has stood since it was signed, 'w' if it waits, 'r' if it was ratified,"
                + " 'n' if it was annulled.");
        Signatory book = bookOfAllStatuses();
        deedIs(book, 0, 's', "it has stood");
        deedIs(book, 1, 'w', "it waits");
        deedIs(book, 2, 'r', "ratified");
        deedIs(book, 3, 'n', "annulled");
        book.revoke(0);
        book.pass(99);
        deedIs(book, 0, 's', "the power was revoked since");
        deedIs(book, 2, 'r', "ratified by a power that was revoked since");
        book.grant(1, 0, 's', 9999, 0, 999);
        deedIs(book, 1, 'w', "the signer could sign it now");
    }

    private static void noSuchDeedToAsk() {
        Signatory book = Books.with(1);
        book.sign(0, 0, 1, 0);
        book.sign(0, 0, 1, 0);
        for (int wrong : Books.outside(0, 1)) {
            noSuchDeed(book, wrong, "two deeds");
        }
        noSuchDeed(new Signatory(), 0, "the empty book");
        noSuchDeed(Books.with(8), 0, "persons, but no deeds");
        noSuchDeed(Books.full(), 24, "the full book");
        Signatory full = Books.full();
        checks.sentence("24: Throws `IndexOutOfBoundsException` if there is no such deed");
        checks.due("the full book, deed 23", 's', () -> full.status(23));
        checks.sentence("25: Throws `IndexOutOfBoundsException` if there is no such deed");
        checks.due("the full book, deed 23", 226, () -> full.sum(23));
        checks.sentence("26: Throws `IndexOutOfBoundsException` if there is no such deed");
        checks.due("the full book, deed 23", 226, () -> full.sumByPapers(23));
        checks.sentence("27: Throws `IndexOutOfBoundsException` if there is no such deed");
        checks.due("the full book, deed 23", true, () -> full.stands(23));
        checks.sentence("28: Throws `IndexOutOfBoundsException` if there is no such deed");
        checks.due("the full book, deed 23", true, () -> full.standsByPapers(23));
        checks.sentence("29: Throws `IndexOutOfBoundsException` if there is no such deed");
        checks.due("the last of two deeds", 'k', () -> book.lack(1));
    }

    private static void noSuchDeed(Signatory book, int wrong, String what) {
        checks.sentence("24: Throws `IndexOutOfBoundsException` if there is no such deed");
        checks.index(what + ", deed " + wrong, () -> book.status(wrong));
        checks.sentence("25: Throws `IndexOutOfBoundsException` if there is no such deed");
        checks.index(what + ", deed " + wrong, () -> book.sum(wrong));
        checks.sentence("26: Throws `IndexOutOfBoundsException` if there is no such deed");
        checks.index(what + ", deed " + wrong, () -> book.sumByPapers(wrong));
        checks.sentence("27: Throws `IndexOutOfBoundsException` if there is no such deed");
        checks.index(what + ", deed " + wrong, () -> book.stands(wrong));
        checks.sentence("28: Throws `IndexOutOfBoundsException` if there is no such deed");
        checks.index(what + ", deed " + wrong, () -> book.standsByPapers(wrong));
        checks.sentence("29: Throws `IndexOutOfBoundsException` if there is no such deed");
        checks.index(what + ", deed " + wrong, () -> book.lack(wrong));
        checks.sentence("30: Throws `IndexOutOfBoundsException` if there is no such deed");
        checks.index(what + ", deed " + wrong, () -> book.lackPower(wrong));
        checks.sentence("31: Throws `IndexOutOfBoundsException` if there is no such deed");
        checks.index(what + ", deed " + wrong, () -> book.lackDepth(wrong));
    }

    private static void windowBefore() {
        checks.sentence("32: Returns the window before.");
        Signatory book = new Signatory();
        checks.due("30 at first", 30, () -> book.setWindow(99));
        checks.due("99", 99, () -> book.setWindow(1));
        checks.due("1", 1, () -> book.setWindow(1));
        checks.due("1 again", 1, () -> book.setWindow(30));
    }

    private static void windowDays() {
        checks.sentence("32: Throws `IllegalArgumentException` if it is not between 1 and 99");
        Signatory book = new Signatory();
        for (int wrong : Books.outside(1, 99)) {
            checks.argument("days " + wrong, () -> book.setWindow(wrong));
        }
        checks.due("1, and refused calls changed nothing", 30, () -> book.setWindow(1));
        checks.due("99", 1, () -> book.setWindow(99));
        checks.argument("0 again", () -> book.setWindow(0));
        checks.argument("100 again", () -> book.setWindow(100));
        checks.due("as it was", 99, () -> book.setWindow(50));
    }
}
