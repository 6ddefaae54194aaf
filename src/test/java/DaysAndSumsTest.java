/** Promises 33 to 36: pass, today, bound, standingShare. */
public final class DaysAndSumsTest {
    private static final Checks checks = new Checks("DaysAndSumsTest");

    public static void main(String[] args) {
        promises33And34Days();
        promises35And36Sums();
        promise35Greatest();
        checks.end();
    }

    private static void promises33And34Days() {
        Signatory book = new Signatory();
        checks.due("33: one day", 1, () -> book.pass(1));
        checks.due("34: the day", 1, book::today);
        for (int wrong : new int[] {0, -1, 100, Integer.MIN_VALUE, Integer.MAX_VALUE}) {
            checks.argument("33: no number of days " + wrong, () -> book.pass(wrong));
        }
        checks.due("33: nothing changed", 1, book::today);
        for (int day = 100; day <= 991; day += 99) {
            int due = day;
            checks.due("33: the most days", due, () -> book.pass(99));
        }
        checks.argument("33: behind 999", () -> book.pass(9));
        checks.argument("33: far behind 999", () -> book.pass(99));
        checks.due("33: up to 999", 999, () -> book.pass(8));
        checks.argument("33: no day is left", () -> book.pass(1));
        checks.due("34: the last day", 999, book::today);
    }

    private static void promises35And36Sums() {
        Signatory book = new Signatory();
        book.addPerson();
        book.addPerson();
        checks.noElement("36: no deed", book::standingShare);
        book.grant(0, 0, 's', 100, 0, 999);
        book.sign(0, 0, 60, 1);
        checks.due("35: one that stands", 60L, book::bound);
        checks.due("36: one of one", 1.0f, book::standingShare);
        book.sign(0, 0, 60, 1);
        checks.due("35: one that waits is not bound", 60L, book::bound);
        checks.due("36: one of two", 0.5f, book::standingShare);
        book.sign(1, 0, 30, 2);
        checks.due("36: one of three", 1.0f / 3.0f, book::standingShare);
        book.annul(1);
        checks.due("36: an annulled one is a deed still", 1.0f / 3.0f, book::standingShare);
        book.ratify(2, 0);
        checks.due("35: amounts and not sums, with a ratified one", 90L, book::bound);
        checks.due("36: with a ratified one", 2.0f / 3.0f, book::standingShare);
        book.revoke(0);
        checks.due("35: kept when the power is revoked", 90L, book::bound);
        Signatory waiting = new Signatory();
        waiting.addPerson();
        waiting.sign(0, 0, 1, 0);
        checks.due("35: none", 0L, waiting::bound);
        checks.due("36: none of one", 0.0f, waiting::standingShare);
    }

    private static void promise35Greatest() {
        Signatory book = new Signatory();
        book.addPerson();
        book.grant(0, 0, 's', 99999, 0, 999);
        book.setWindow(1);
        for (int deed = 0; deed < 24; deed++) {
            book.sign(0, 0, 9999, 5);
            book.pass(1);
        }
        checks.due("35: all deeds", 24L * 9999L, book::bound);
        checks.due("36: all deeds", 1.0f, book::standingShare);
    }
}
