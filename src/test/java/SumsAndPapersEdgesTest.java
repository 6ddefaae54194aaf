/** The sentences of promises 25 to 28, and those about sums and papers, that name a boundary case, each with a test of its own. */
public final class SumsAndPapersEdgesTest {
    private static final Checks checks = new Checks("SumsAndPapersEdgesTest");

    public static void main(String[] args) {
        sameKindAndParty();
        leastAndGreatestSum();
        fewerDaysAgoThanTheWindow();
        fewerDaysAgoThanTheLeastWindow();
        fewerDaysAgoThanTheGreatestWindow();
        everyWindow();
        windowFromNowOn();
        annulledAheadOfIt();
        toldUntilItWasSigned();
        absenceToldUntilItWasSigned();
        toldUntilItWasRatified();
        askedOnLaterDays();
        sumOfThenAndNotOfNow();
        askedInEveryOrder();
        standsOrWasRatified();
        emptyPapers();
        fullPapers();
        checks.end();
    }

    private static void sumIs(Signatory book, int deed, int want, String what) {
        checks.due(what, want, () -> book.sum(deed));
        checks.due(what + ", by the papers", want, () -> book.sumByPapers(deed));
    }

    private static void standsIs(Signatory book, int deed, boolean want, String what) {
        checks.due(what, want, () -> book.stands(deed));
        checks.due(what + ", by the papers", want, () -> book.standsByPapers(deed));
    }

    private static void sameKindAndParty() {
        checks.sentence("Terms: Its sum is its amount plus those of all earlier deeds of the same kind with the same party");
        Signatory book = Books.with(2);
        int amount = 1;
        for (int kind = 0; kind < 4; kind += 3) {
            for (int party = 0; party < 10; party += 9) {
                sumIs(book, book.sign(0, kind, amount, party), amount, "kind " + kind + ", party " + party);
                amount *= 10;
            }
        }
        amount = 1;
        for (int kind = 0; kind < 4; kind += 3) {
            for (int party = 0; party < 10; party += 9) {
                sumIs(book, book.sign(1, kind, 2, party), amount + 2, "again kind " + kind + ", party " + party);
                amount *= 10;
            }
        }
        sumIs(book, book.sign(0, 1, 3, 0), 3, "a kind without earlier deeds");
        sumIs(book, book.sign(0, 0, 3, 1), 3, "a party without earlier deeds");
        sumIs(book, 0, 1, "later deeds are not added");
    }

    private static void leastAndGreatestSum() {
        checks.sentence("25: Returns the sum.");
        Signatory book = Books.with(1);
        sumIs(book, book.sign(0, 0, 1, 0), 1, "the least");
        book.setWindow(99);
        for (int deed = 1; deed < 24; deed++) {
            sumIs(book, book.sign(0, 3, 9999, 9), 9999 * deed, "deed " + deed);
        }
        Signatory greatest = Books.with(1);
        for (int deed = 0; deed < 24; deed++) {
            greatest.sign(0, 3, 9999, 9);
        }
        sumIs(greatest, 23, 239976, "the greatest of all");
        standsIs(greatest, 23, false, "the greatest of all");
    }

    private static void fewerDaysAgoThanTheWindow() {
        checks.sentence("Terms: and were signed fewer days ago than the window, which is 30 at first.");
        Signatory book = Books.with(1);
        book.sign(0, 0, 1, 0);
        book.pass(29);
        sumIs(book, book.sign(0, 0, 10, 0), 11, "29 days ago");
        book.pass(1);
        sumIs(book, book.sign(0, 0, 100, 0), 110, "30 days ago");
        book.pass(1);
        sumIs(book, book.sign(0, 0, 1000, 0), 1110, "31 days ago");
    }

    private static void fewerDaysAgoThanTheLeastWindow() {
        checks.sentence("Terms: and were signed fewer days ago than the window (1)");
        Signatory book = Books.with(1);
        book.setWindow(1);
        book.sign(0, 0, 1, 0);
        sumIs(book, book.sign(0, 0, 10, 0), 11, "the same day");
        book.pass(1);
        sumIs(book, book.sign(0, 0, 100, 0), 100, "a day ago");
    }

    private static void fewerDaysAgoThanTheGreatestWindow() {
        checks.sentence("Terms: and were signed fewer days ago than the window (99)");
        Signatory book = Books.with(1);
        book.setWindow(99);
        Books.passTo(book, 900);
        book.sign(0, 0, 1, 0);
        Books.passTo(book, 998);
        sumIs(book, book.sign(0, 0, 10, 0), 11, "98 days ago");
        book.pass(1);
        sumIs(book, book.sign(0, 0, 100, 0), 110, "99 days ago, on the last day of all");
    }

    private static void everyWindow() {
        checks.sentence("Terms: and were signed fewer days ago than the window (each)");
        for (int window = 2; window <= 99; window++) {
            Signatory book = Books.with(1);
            book.setWindow(window);
            book.sign(0, 0, 1, 0);
            Books.passTo(book, window - 1);
            sumIs(book, book.sign(0, 0, 10, 0), 11, "one day fewer than " + window);
            book.pass(1);
            sumIs(book, book.sign(0, 0, 100, 0), 110, "as many days as " + window);
        }
    }

    private static void windowFromNowOn() {
        checks.sentence("32: Sets the window for deeds that are signed from now on.");
        Signatory book = Books.with(1);
        book.sign(0, 0, 1, 0);
        book.pass(1);
        book.sign(0, 0, 10, 0);
        book.setWindow(1);
        sumIs(book, 1, 11, "signed just ahead of it");
        book.sign(0, 0, 100, 0);
        sumIs(book, 2, 110, "signed just behind it");
        book.setWindow(2);
        book.setWindow(99);
        sumIs(book, 2, 110, "signed ahead of two more");
        sumIs(book, book.sign(0, 0, 1000, 0), 1111, "signed behind the last one");
        checks.argument("a refused one", () -> book.setWindow(0));
        sumIs(book, book.sign(0, 0, 1, 0), 1112, "signed behind a refused one");
    }

    private static void annulledAheadOfIt() {
        checks.sentence("Terms: that were not annulled ahead of it");
        Signatory book = Books.with(1);
        book.sign(0, 0, 1, 0);
        book.sign(0, 0, 10, 0);
        book.annul(0);
        sumIs(book, 1, 11, "annulled just behind it");
        sumIs(book, book.sign(0, 0, 100, 0), 110, "annulled just ahead of it");
        book.annul(1);
        book.annul(2);
        sumIs(book, 2, 110, "annulled behind it, and itself");
        sumIs(book, book.sign(0, 0, 1000, 0), 1000, "all annulled");
        for (int deed = 4; deed < 24; deed++) {
            book.sign(0, 0, 1, 0);
        }
        book.annul(23);
        book.annul(3);
        sumIs(book, 23, 1020, "the last deed of the full book");
        sumIs(book, 4, 1001, "an earlier one");
    }

    private static void toldUntilItWasSigned() {
        checks.sentence("Terms: so that a deed can be judged by what had been told until it was signed (powers)");
        Signatory book = Books.with(2);
        book.sign(0, 0, 1, 0);
        book.grant(0, 0, 's', 50, 0, 0);
        standsIs(book, 0, false, "granted just behind it");
        standsIs(book, book.sign(0, 0, 50, 1), true, "granted just ahead of it");
        book.lower(0, 49);
        standsIs(book, 1, true, "lowered just behind it");
        standsIs(book, book.sign(0, 0, 50, 2), false, "lowered just ahead of it");
        book.delegate(0, 1, 49, 0, 0);
        standsIs(book, book.sign(1, 0, 49, 3), true, "delegated just ahead of it");
        book.lower(0, 48);
        standsIs(book, 3, true, "the source was lowered just behind it");
        standsIs(book, book.sign(1, 0, 49, 4), false, "the source was lowered just ahead of it");
        standsIs(book, book.sign(1, 0, 48, 5), true, "ahead of being revoked");
        book.revoke(1);
        standsIs(book, 5, true, "revoked just behind it");
        standsIs(book, book.sign(1, 0, 1, 6), false, "revoked just ahead of it");
        standsIs(book, book.sign(0, 0, 48, 7), true, "not the source");
        book.revoke(0);
        standsIs(book, 7, true, "the source was revoked just behind it");
        standsIs(book, book.sign(0, 0, 1, 8), false, "the source was revoked just ahead of it");
        book.pass(1);
        standsIs(book, 7, true, "the days are over");
    }

    private static void absenceToldUntilItWasSigned() {
        checks.sentence("Terms: so that a deed can be judged by what had been told until it was signed (absence)");
        Signatory book = Books.with(8);
        book.grant(7, 0, 's', 50, 0, 0);
        standsIs(book, book.sign(0, 0, 1, 0), false, "present");
        book.leave(7, 0);
        standsIs(book, 0, false, "absent just behind it");
        standsIs(book, book.sign(0, 0, 1, 1), true, "absent just ahead of it");
        book.leave(7, 6);
        standsIs(book, 1, true, "another substitute just behind it");
        standsIs(book, book.sign(0, 0, 1, 2), false, "another substitute just ahead of it");
        standsIs(book, book.sign(6, 0, 1, 3), true, "the other substitute");
        book.leave(7, -1);
        standsIs(book, 3, true, "without a substitute just behind it");
        standsIs(book, book.sign(6, 0, 1, 4), false, "without a substitute just ahead of it");
        book.leave(7, 6);
        standsIs(book, book.sign(6, 0, 1, 5), true, "a substitute again");
        book.comeBack(7);
        standsIs(book, 5, true, "present just behind it");
        standsIs(book, book.sign(6, 0, 1, 6), false, "present just ahead of it");
        checks.argument("a refused call", () -> book.leave(7, 7));
        checks.index("another refused call", () -> book.leave(7, 8));
        standsIs(book, book.sign(7, 0, 1, 7), true, "behind refused calls");
    }

    private static void toldUntilItWasRatified() {
        checks.sentence("Terms: or until it was ratified");
        Signatory book = Books.with(4);
        book.sign(0, 0, 9, 0);
        book.sign(0, 0, 9, 1);
        book.sign(0, 0, 9, 2);
        book.pass(5);
        book.grant(1, 0, 's', 9, 5, 5);
        book.ratify(0, 1);
        standsIs(book, 0, true, "granted just ahead of it");
        standsIs(book, 1, false, "not ratified");
        book.lower(0, 8);
        standsIs(book, 0, true, "lowered just behind it");
        checks.unsupported("refused", () -> book.ratify(1, 1));
        book.grant(1, 0, 's', 9, 5, 5);
        book.leave(1, 2);
        book.ratify(1, 2);
        book.leave(1, 3);
        standsIs(book, 1, true, "another substitute just behind it");
        checks.unsupported("refused by the substitute of before", () -> book.ratify(2, 2));
        standsIs(book, 2, false, "refused");
        book.ratify(2, 3);
        book.revoke(1);
        standsIs(book, 2, true, "revoked just behind it");
        book.pass(1);
        standsIs(book, 0, true, "a day behind it");
        book.annul(book.sign(0, 0, 9, 0));
        book.setWindow(1);
        standsIs(book, 0, true, "the window, and a deed annulled, behind it");
    }

    private static void askedOnLaterDays() {
        checks.sentence("26: Returns the same sum, found from all deeds and the window by the papers. (days)");
        Signatory book = Books.with(1);
        book.sign(0, 0, 1, 0);
        book.pass(29);
        book.sign(0, 0, 10, 0);
        book.pass(1);
        book.sign(0, 0, 100, 0);
        for (int day = 30; day < 990; day += 80) {
            Books.passTo(book, day);
            sumIs(book, 0, 1, "the first, asked on day " + day);
            sumIs(book, 1, 11, "29 days ago then, asked on day " + day);
            sumIs(book, 2, 110, "30 days ago then, asked on day " + day);
        }
        Books.passTo(book, 999);
        sumIs(book, 1, 11, "asked on the last day");
    }

    private static void sumOfThenAndNotOfNow() {
        checks.sentence("28: Tells the same, judged by the papers. (sums)");
        Signatory book = Books.with(2);
        book.grant(0, 0, 's', 50, 0, 999);
        book.sign(1, 0, 1, 0);
        standsIs(book, book.sign(0, 0, 50, 0), false, "one more than the limit");
        book.annul(0);
        standsIs(book, 1, false, "the earlier deed was annulled behind it");
        book.annul(1);
        standsIs(book, 1, false, "annulled itself");
        standsIs(book, book.sign(0, 0, 50, 0), true, "both were annulled ahead of it");
        book.pass(1);
        book.setWindow(1);
        standsIs(book, book.sign(0, 0, 50, 0), true, "nothing in the window");
        book.setWindow(2);
        standsIs(book, 3, true, "a greater window behind it");
        standsIs(book, book.sign(0, 0, 1, 0), false, "a greater window ahead of it");
        book.setWindow(1);
        book.pass(1);
        standsIs(book, 4, false, "a lesser window behind it");
        book.grant(0, 0, 's', 101, 2, 2);
        book.ratify(4, 0);
        standsIs(book, 4, true, "ratified with the sum of then");
    }

    /** What a look at later papers has found may not be left when earlier ones are looked at. */
    private static void askedInEveryOrder() {
        checks.sentence("28: Tells the same, judged by the papers. (asked in every order)");
        Signatory book = Books.with(3);
        book.sign(0, 0, 1, 0);
        book.grant(0, 0, 's', 9, 0, 9);
        book.leave(0, 1);
        book.sign(1, 0, 2, 0);
        book.annul(0);
        book.leave(0, 2);
        book.setWindow(1);
        book.pass(1);
        book.sign(2, 0, 4, 0);
        book.setWindow(9);
        book.comeBack(0);
        book.sign(2, 0, 8, 0);
        book.annul(3);
        book.revoke(0);
        book.sign(0, 0, 1, 0);
        int[] sums = {1, 3, 4, 14, 7};
        boolean[] standing = {false, true, true, false, false};
        for (int one = 0; one < 5; one++) {
            for (int two = 0; two < 5; two++) {
                sumIs(book, one, sums[one], one + " ahead of " + two);
                sumIs(book, two, sums[two], two + " behind " + one);
                standsIs(book, one, standing[one], one + " ahead of " + two);
                standsIs(book, two, standing[two], two + " behind " + one);
            }
        }
    }

    private static void standsOrWasRatified() {
        checks.sentence("27: Returns true if it has stood since it was signed or was ratified.");
        Signatory book = Books.with(2);
        book.grant(0, 0, 's', 9, 0, 0);
        standsIs(book, book.sign(0, 0, 9, 0), true, "it stood");
        standsIs(book, book.sign(1, 0, 9, 1), false, "it waits");
        book.annul(book.sign(1, 0, 9, 2));
        standsIs(book, 2, false, "annulled");
        book.ratify(1, 0);
        standsIs(book, 1, true, "ratified");
        checks.state("annulling it is refused", () -> book.annul(1));
        checks.state("ratifying an annulled one is refused", () -> book.ratify(2, 0));
        standsIs(book, 1, true, "ratified, refused");
        standsIs(book, 2, false, "annulled, refused");
    }

    private static void emptyPapers() {
        checks.sentence("28: Tells the same, judged by the papers. (no papers)");
        Signatory book = Books.with(1);
        book.sign(0, 0, 1, 0);
        standsIs(book, 0, false, "nothing was told");
        sumIs(book, 0, 1, "nothing was told");
        book.grant(0, 0, 's', 99999, 0, 999);
        standsIs(book, 0, false, "nothing was told until it was signed");
        book.ratify(0, 0);
        standsIs(book, 0, true, "one paper until it was ratified");
    }

    /** The 512 calls of an object: 508 tell something, and the last ones ask. */
    private static void fullPapers() {
        checks.sentence("An object is used for at most 512 calls after it has been made");
        Signatory book = Books.with(2);
        book.grant(0, 0, 's', 50, 0, 999);
        book.delegate(0, 1, 50, 0, 999);
        book.sign(1, 0, 30, 0);
        book.pass(1);
        for (int call = 0; call < 250; call++) {
            book.leave(call % 2, -1);
        }
        for (int call = 0; call < 250; call++) {
            book.setWindow(1 + call % 99);
        }
        book.setWindow(1);
        book.sign(1, 0, 50, 0);
        checks.due("call 509", 50, () -> book.sumByPapers(1));
        checks.due("call 510", true, () -> book.standsByPapers(1));
        checks.due("call 511", 1, () -> book.revoke(1));
        checks.due("call 512", true, () -> book.standsByPapers(1));
    }
}
