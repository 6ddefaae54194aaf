/** The sentences of promises 33 to 36 that name a boundary case, each with a test of its own. */
public final class DaysAndSumsEdgesTest {
    private static final Checks checks = new Checks("DaysAndSumsEdgesTest");

    public static void main(String[] args) {
        todayBehindPassing();
        numberOfDays();
        todayBehind999();
        everyLastDay();
        theDay();
        sumOfAmounts();
        greatestBound();
        shareOfTheDeeds();
        everyShare();
        noDeed();
        checks.end();
    }

    private static void todayBehindPassing() {
        checks.sentence("33: Returns today.");
        Signatory book = new Signatory();
        checks.due("the least", 1, () -> book.pass(1));
        checks.due("the most", 100, () -> book.pass(99));
        checks.due("between", 150, () -> book.pass(50));
    }

    private static final String PASS_ARGUMENTS = "33: Throws `IllegalArgumentException` if the number is not"
            + " between 1 and 99, or today would be behind 999";

    private static void numberOfDays() {
        checks.sentence(PASS_ARGUMENTS + " (number)");
        Signatory book = new Signatory();
        for (int wrong : Books.outside(1, 99)) {
            checks.argument("days " + wrong, () -> book.pass(wrong));
        }
        checks.due("refused calls changed nothing", 0, book::today);
        checks.due("1", 1, () -> book.pass(1));
        checks.due("99", 100, () -> book.pass(99));
        for (int wrong : Books.outside(1, 99)) {
            checks.argument("days " + wrong + " on day 100", () -> book.pass(wrong));
        }
        checks.due("refused calls changed nothing again", 100, book::today);
    }

    private static void todayBehind999() {
        checks.sentence(PASS_ARGUMENTS + " (behind 999)");
        Signatory book = new Signatory();
        Books.passTo(book, 900);
        checks.due("up to 999 by 99", 999, () -> book.pass(99));
        checks.argument("1 behind 999", () -> book.pass(1));
        checks.argument("99 behind 999", () -> book.pass(99));
        checks.argument("wrapped around", () -> book.pass(Integer.MAX_VALUE));
        checks.argument("back", () -> book.pass(-999));
        checks.due("refused calls changed nothing", 999, book::today);
    }

    private static void everyLastDay() {
        checks.sentence(PASS_ARGUMENTS + " (each day up to 999)");
        for (int left = 1; left < 99; left++) {
            Signatory book = new Signatory();
            Books.passTo(book, 999 - left);
            int most = left;
            checks.argument("one more than " + left, () -> book.pass(most + 1));
            checks.due("not changed, " + left + " are left", 999 - left, book::today);
            checks.due("just " + left, 999, () -> book.pass(most));
            checks.argument("none is left behind " + left, () -> book.pass(1));
        }
    }

    private static void theDay() {
        checks.sentence("34: Returns the day.");
        Signatory book = new Signatory();
        checks.due("the first day", 0, book::today);
        book.pass(1);
        checks.due("the next day", 1, book::today);
        Books.passTo(book, 999);
        checks.due("the last day", 999, book::today);
        checks.due("asked again", 999, book::today);
    }

    private static void sumOfAmounts() {
        checks.sentence("35: Returns the sum of the amounts of all deeds that stand.");
        Signatory book = Books.with(2);
        checks.due("no deeds", 0L, book::bound);
        book.grant(0, 0, 's', 500, 0, 999);
        book.sign(1, 0, 100, 0);
        checks.due("one that waits", 0L, book::bound);
        book.sign(0, 0, 1, 0);
        checks.due("its amount, and not its sum", 1L, book::bound);
        book.sign(1, 0, 20, 0);
        book.ratify(2, 0);
        checks.due("one that was ratified", 21L, book::bound);
        book.annul(0);
        checks.due("one that was annulled", 21L, book::bound);
        checks.state("annulling one that stands is refused", () -> book.annul(1));
        checks.state("ratifying one that was annulled is refused", () -> book.ratify(0, 0));
        checks.argument("signing is refused", () -> book.sign(0, 0, 10000, 0));
        checks.due("refused calls changed nothing", 21L, book::bound);
        book.lower(0, 1);
        book.revoke(0);
        book.pass(99);
        checks.due("what is told later changes nothing", 21L, book::bound);
    }

    private static void greatestBound() {
        checks.sentence("35: Returns the sum. (the full book)");
        Signatory book = Books.with(1);
        book.grant(0, 0, 's', 9999, 0, 999);
        book.grant(0, 1, 's', 9999, 0, 999);
        book.grant(0, 2, 's', 9999, 0, 999);
        for (int deed = 0; deed < 24; deed++) {
            book.sign(0, deed / 10, 9999, deed % 10);
        }
        checks.due("the greatest", 239976L, book::bound);
        checks.due("all stand", 1.0f, book::standingShare);
        Signatory waiting = Books.with(1);
        for (int deed = 0; deed < 24; deed++) {
            waiting.sign(0, 0, 9999, 0);
        }
        checks.due("all wait", 0L, waiting::bound);
        checks.due("none stands", 0.0f, waiting::standingShare);
    }

    private static void shareOfTheDeeds() {
        checks.sentence("36: Returns their number divided by that of all deeds, both converted to float.");
        Signatory book = Books.with(2);
        book.grant(0, 0, 's', 500, 0, 999);
        book.sign(1, 0, 100, 0);
        checks.due("none of one", 0.0f, book::standingShare);
        book.annul(0);
        checks.due("none of one that was annulled", 0.0f, book::standingShare);
        book.sign(0, 0, 100, 0);
        checks.due("one of two", 0.5f, book::standingShare);
        book.sign(1, 0, 100, 0);
        checks.due("one of three", 0.33333334f, book::standingShare);
        book.ratify(2, 0);
        checks.due("two of three, one of them ratified", 0.6666667f, book::standingShare);
        checks.unsupported("a refused call", () -> book.signTogether(0, 0, 0, 1, 0));
        checks.due("changed nothing", 0.6666667f, book::standingShare);
    }

    private static void everyShare() {
        checks.sentence("36: Returns their number divided by that of all deeds, both converted to float. (each)");
        for (int standing = 0; standing <= 24; standing++) {
            Signatory book = Books.with(2);
            book.grant(0, 0, 's', 99999, 0, 999);
            for (int deed = 0; deed < standing; deed++) {
                book.sign(0, 0, 1, 0);
            }
            for (int deed = standing; deed < 24; deed++) {
                book.sign(1, 0, 1, 0);
            }
            checks.due(standing + " of 24", (float) standing / 24.0f, book::standingShare);
            checks.due(standing + " bound", (long) standing, book::bound);
        }
    }

    private static void noDeed() {
        checks.sentence("36: Throws `NoSuchElementException` if there is no deed");
        checks.noElement("the empty book", () -> new Signatory().standingShare());
        Signatory book = Books.with(8);
        book.grant(0, 0, 's', 500, 0, 999);
        checks.noElement("persons and powers, but no deeds", book::standingShare);
        checks.argument("signing is refused", () -> book.sign(0, 0, 0, 0));
        checks.noElement("a refused call made none", book::standingShare);
        book.sign(0, 0, 1, 0);
        checks.due("one deed", 1.0f, book::standingShare);
    }
}
