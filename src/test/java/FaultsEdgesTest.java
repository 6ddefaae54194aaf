/** The sentences of promises 12 to 14, and those about faults, that name a boundary case, each with a test of its own. */
public final class FaultsEdgesTest {
    private static final Checks checks = new Checks("FaultsEdgesTest");

    public static void main(String[] args) {
        sourceHasAFault();
        dayIsNotOneOfItsDays();
        firstAndLastDayOfAll();
        revokedFault();
        sumGreaterThanTheLimit();
        depthOfAFault();
        noFault();
        noSuchPower();
        sumsToAsk();
        greatestSum();
        greatestSumOnDays();
        greatestSumOfAChain();
        checks.end();
    }

    private static void faultIs(Signatory book, int power, int sum, char fault, int depth, String what) {
        checks.due(what, fault, () -> book.fault(power, sum));
        checks.due(what + ", its depth", depth, () -> book.faultDepth(power, sum));
    }

    private static void faultIsNone(Signatory book, int power, int sum, String what) {
        checks.due(what, '-', () -> book.fault(power, sum));
        checks.noElement(what + ", its depth", () -> book.faultDepth(power, sum));
    }

    private static void sourceHasAFault() {
        checks.sentence("Terms: The fault of a power for a sum on a day is that of its source,"
                + " if it has a source and this has a fault");
        Signatory book = Books.with(2);
        book.grant(0, 1, 's', 50, 0, 5);
        book.delegate(0, 1, 40, 0, 2);
        faultIs(book, 1, 51, 'l', 1, "both have one");
        faultIs(book, 1, 41, 'l', 0, "its own alone");
        faultIsNone(book, 1, 40, "neither");
        book.pass(3);
        faultIs(book, 1, 51, 'l', 1, "the source's limit hides its own day");
        faultIs(book, 1, 50, 'd', 0, "its own day");
        book.revoke(1);
        faultIs(book, 1, 51, 'l', 1, "the source's limit hides that it was revoked");
        book.revoke(0);
        faultIs(book, 1, 1, 'v', 1, "that the source was revoked hides its own day");
        book.pass(3);
        faultIs(book, 1, 1, 'd', 1, "the source's day");
    }

    private static void dayIsNotOneOfItsDays() {
        checks.sentence("Terms: otherwise 'd' if the day is not one of its days");
        Signatory book = Books.with(1);
        book.grant(0, 0, 's', 50, 2, 4);
        book.grant(0, 0, 's', 50, 3, 3);
        book.pass(1);
        faultIs(book, 0, 50, 'd', 0, "a day ahead of the first");
        book.pass(1);
        faultIsNone(book, 0, 50, "the first day");
        faultIs(book, 1, 50, 'd', 0, "a day ahead of one day");
        book.pass(1);
        faultIsNone(book, 1, 50, "one day");
        book.pass(1);
        faultIs(book, 1, 50, 'd', 0, "a day behind one day");
        faultIsNone(book, 0, 50, "the last day");
        book.pass(1);
        faultIs(book, 0, 50, 'd', 0, "a day behind the last");
        faultIs(book, 0, 51, 'd', 0, "the day goes ahead of the limit");
        book.revoke(0);
        faultIs(book, 0, 50, 'd', 0, "the day goes ahead of revoked");
    }

    private static void firstAndLastDayOfAll() {
        checks.sentence("Terms: Days have the numbers 0 to 999; today is the day 0 at first.");
        Signatory book = Books.with(1);
        book.grant(0, 0, 's', 50, 0, 0);
        book.grant(0, 0, 's', 50, 999, 999);
        book.grant(0, 0, 's', 50, 0, 998);
        faultIsNone(book, 0, 50, "the day 0");
        faultIs(book, 1, 50, 'd', 0, "not yet the day 999");
        Books.passTo(book, 998);
        faultIs(book, 1, 50, 'd', 0, "the day 998 is not the day 999");
        faultIsNone(book, 2, 50, "the day 998");
        book.pass(1);
        faultIsNone(book, 1, 50, "the day 999");
        faultIs(book, 2, 50, 'd', 0, "a day behind 998");
        faultIs(book, 0, 50, 'd', 0, "the day 0 is over");
    }

    private static void revokedFault() {
        checks.sentence("Terms: otherwise 'v' if it has been revoked");
        Signatory book = Books.chain(2, 50, 0, 9);
        book.revoke(1);
        faultIs(book, 1, 50, 'v', 0, "revoked");
        faultIs(book, 1, 1, 'v', 0, "for the least sum too");
        faultIsNone(book, 0, 50, "not its source");
        book.lower(1, 10);
        faultIs(book, 1, 11, 'v', 0, "revoked goes ahead of the limit");
        book.revoke(0);
        faultIs(book, 1, 1, 'v', 1, "the source is revoked too");
    }

    private static void sumGreaterThanTheLimit() {
        checks.sentence("Terms: otherwise 'l' if the sum is greater than its limit; otherwise it has none.");
        Signatory book = Books.with(1);
        book.grant(0, 0, 's', 50, 0, 9);
        book.grant(0, 0, 's', 1, 0, 9);
        book.grant(0, 0, 's', 99999, 0, 9);
        faultIsNone(book, 0, 49, "below the limit");
        faultIsNone(book, 0, 50, "the limit");
        faultIs(book, 0, 51, 'l', 0, "one more");
        faultIs(book, 0, 99999, 'l', 0, "the greatest sum");
        faultIsNone(book, 1, 1, "the least limit");
        faultIs(book, 1, 2, 'l', 0, "one more than the least limit");
        faultIsNone(book, 2, 99999, "the greatest limit");
        book.lower(0, 49);
        faultIs(book, 0, 50, 'l', 0, "the limit of before");
        faultIsNone(book, 0, 49, "the lowered limit");
    }

    private static void depthOfAFault() {
        checks.sentence("Terms: The depth of a fault is the number of steps from the power to its source,"
                + " from this to its source, and so on, up to the one whose own fault it is.");
        Signatory book = Books.chain(20, 99999, 0, 9);
        book.lower(0, 99998);
        for (int power = 0; power < 20; power++) {
            faultIs(book, power, 99999, 'l', power, "power " + power + " of a chain of 20");
        }
        book.lower(10, 50);
        faultIs(book, 19, 51, 'l', 9, "of the middle one");
        faultIs(book, 10, 51, 'l', 0, "the middle one's own");
        faultIsNone(book, 9, 51, "not of its source");
        book.revoke(0);
        faultIs(book, 19, 1, 'v', 19, "of the first one");
    }

    private static void noFault() {
        checks.sentence("13: Throws `NoSuchElementException` if it has no fault");
        Signatory book = Books.chain(2, 50, 1, 1);
        book.lower(1, 40);
        checks.due("a day ahead", 1, () -> book.faultDepth(1, 40));
        book.pass(1);
        checks.noElement("the limit", () -> book.faultDepth(1, 40));
        checks.noElement("the least sum", () -> book.faultDepth(1, 1));
        checks.due("one more than the limit", 0, () -> book.faultDepth(1, 41));
        checks.due("one more than that of the source", 1, () -> book.faultDepth(1, 51));
        book.revoke(1);
        checks.due("revoked", 0, () -> book.faultDepth(1, 40));
        checks.noElement("the source", () -> book.faultDepth(0, 50));
    }

    private static void noSuchPower() {
        Signatory book = Books.chain(3, 50, 0, 9);
        Signatory full = Books.full();
        for (int wrong : Books.outside(0, 2)) {
            checks.sentence("12: Throws `IndexOutOfBoundsException` if there is no such power");
            checks.index("power " + wrong, () -> book.fault(wrong, 50));
            checks.sentence("13: Throws `IndexOutOfBoundsException` if there is no such power");
            checks.index("power " + wrong, () -> book.faultDepth(wrong, 51));
            checks.sentence("14: Throws `IndexOutOfBoundsException` if there is no such power");
            checks.index("power " + wrong, () -> book.reach(wrong));
        }
        checks.sentence("12: Throws `IndexOutOfBoundsException` if there is no such power");
        checks.due("the last power", '-', () -> book.fault(2, 50));
        checks.index("the empty book", () -> new Signatory().fault(0, 1));
        checks.due("the full book, power 19", 'l', () -> full.fault(19, 1001));
        checks.index("the full book, power 20", () -> full.fault(20, 1));
        checks.sentence("13: Throws `IndexOutOfBoundsException` if there is no such power");
        checks.due("the last power", 2, () -> book.faultDepth(2, 51));
        checks.index("the empty book", () -> new Signatory().faultDepth(0, 1));
        checks.due("the full book, power 19", 0, () -> full.faultDepth(19, 1001));
        checks.index("the full book, power 20", () -> full.faultDepth(20, 1));
        checks.sentence("14: Throws `IndexOutOfBoundsException` if there is no such power");
        checks.due("the last power", 50, () -> book.reach(2));
        checks.index("the empty book", () -> new Signatory().reach(0));
        checks.due("the full book, power 19", 1000, () -> full.reach(19));
        checks.index("the full book, power 20", () -> full.reach(20));
    }

    private static void sumsToAsk() {
        Signatory book = Books.chain(2, 50, 0, 9);
        checks.sentence("12: Throws `IllegalArgumentException` if the sum is not between 1 and 99999");
        for (int wrong : Books.outside(1, 99999)) {
            checks.argument("sum " + wrong, () -> book.fault(1, wrong));
        }
        checks.due("sum 1", '-', () -> book.fault(1, 1));
        checks.due("sum 99999", 'l', () -> book.fault(1, 99999));
        checks.sentence("13: Throws `IllegalArgumentException` if the sum is not between 1 and 99999");
        for (int wrong : Books.outside(1, 99999)) {
            checks.argument("sum " + wrong, () -> book.faultDepth(1, wrong));
        }
        checks.noElement("sum 1", () -> book.faultDepth(1, 1));
        checks.due("sum 99999", 1, () -> book.faultDepth(1, 99999));
    }

    private static void greatestSum() {
        checks.sentence("14: Returns the sum, 0 if there is none. (limits)");
        Signatory book = Books.with(1);
        book.grant(0, 0, 's', 1, 0, 9);
        book.grant(0, 0, 's', 99999, 0, 9);
        checks.due("the least limit", 1, () -> book.reach(0));
        checks.due("the greatest limit", 99999, () -> book.reach(1));
        book.lower(1, 99998);
        checks.due("the lowered limit", 99998, () -> book.reach(1));
        book.revoke(1);
        checks.due("revoked", 0, () -> book.reach(1));
        checks.due("not the other one", 1, () -> book.reach(0));
    }

    private static void greatestSumOnDays() {
        checks.sentence("14: Returns the sum, 0 if there is none. (days)");
        Signatory book = Books.with(2);
        book.grant(0, 0, 's', 50, 2, 6);
        book.delegate(0, 1, 40, 3, 5);
        int[] dueOfSource = {0, 0, 50, 50, 50, 50, 50, 0};
        int[] dueOfPower = {0, 0, 0, 40, 40, 40, 0, 0};
        for (int day = 0; day < 8; day++) {
            checks.due("the source on day " + day, dueOfSource[day], () -> book.reach(0));
            checks.due("the power on day " + day, dueOfPower[day], () -> book.reach(1));
            book.pass(1);
        }
    }

    private static void greatestSumOfAChain() {
        checks.sentence("14: Returns the sum, 0 if there is none. (chain)");
        Signatory book = Books.chain(20, 99999, 0, 9);
        checks.due("the last of 20", 99999, () -> book.reach(19));
        book.lower(0, 7);
        checks.due("the first is the least", 7, () -> book.reach(19));
        book.lower(10, 6);
        checks.due("the middle one is", 6, () -> book.reach(19));
        book.lower(19, 5);
        checks.due("its own is", 5, () -> book.reach(19));
        checks.due("not below the middle", 6, () -> book.reach(18));
        checks.due("not below the first", 7, () -> book.reach(9));
        book.revoke(10);
        checks.due("the middle one is revoked", 0, () -> book.reach(19));
        checks.due("that before it is not", 7, () -> book.reach(9));
    }
}
