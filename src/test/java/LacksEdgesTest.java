/** The sentences of promises 29 to 31, and those about lacks, that name a boundary case, each with a test of its own. */
public final class LacksEdgesTest {
    private static final Checks checks = new Checks("LacksEdgesTest");

    public static void main(String[] args) {
        thereWasNone();
        eachLackAlone();
        theLastInThisOrder();
        otherHandsWereNeeded();
        lowestNumber();
        powersOfOneOfItsSigners();
        stoodWhenSigned();
        lackOfNoPower();
        lackOfThen();
        boundaryOfEachLack();
        stepsOfTheLack();
        longestChain();
        checks.end();
    }

    private static void lackIs(Signatory book, int deed, char lack, int power, int depth, String what) {
        checks.due(what, lack, () -> book.lack(deed));
        checks.due(what + ", its power", power, () -> book.lackPower(deed));
        checks.due(what + ", its depth", depth, () -> book.lackDepth(deed));
    }

    private static void lackIsNoPower(Signatory book, int deed, String what) {
        checks.due(what, 'k', () -> book.lack(deed));
        checks.noElement(what + ", its power", () -> book.lackPower(deed));
        checks.noElement(what + ", its depth", () -> book.lackDepth(deed));
    }

    /** Grants person 0 a power of kind 1 that has this lack for the sum 50 on day 5. */
    private static int giveLacking(Signatory book, char lack) {
        if (lack == 'd') {
            return book.grant(0, 1, 's', 50, 6, 9);
        }
        if (lack == 'h') {
            return book.grant(0, 1, 'a', 50, 5, 5);
        }
        int power = book.grant(0, 1, 's', lack == 'l' ? 49 : 50, 5, 5);
        if (lack == 'v') {
            book.revoke(power);
        }
        return power;
    }

    private static Signatory bookOnDay5() {
        Signatory book = Books.with(3);
        book.pass(5);
        return book;
    }

    private static void thereWasNone() {
        checks.sentence("Terms: 'k' if there was none");
        Signatory book = bookOnDay5();
        lackIsNoPower(book, book.sign(0, 1, 50, 0), "no powers at all");
        book.grant(1, 1, 'a', 50, 0, 999);
        lackIsNoPower(book, book.sign(0, 1, 50, 1), "a power of another person");
        book.grant(0, 0, 'a', 50, 0, 999);
        book.grant(0, 2, 'a', 50, 0, 999);
        lackIsNoPower(book, book.sign(0, 1, 50, 2), "powers of the kinds beside it");
        lackIsNoPower(book, book.signTogether(0, 2, 1, 50, 3), "two signers without a power");
        book.leave(1, -1);
        lackIsNoPower(book, book.sign(0, 1, 50, 4), "a power of somebody absent without a substitute");
        book.leave(0, 1);
        lackIsNoPower(book, book.sign(0, 1, 50, 5), "a power of the signer's own substitute");
    }

    private static void eachLackAlone() {
        checks.sentence("29: Returns 'k', 'd', 'v', 'l' or 'h'.");
        for (char lack : new char[] {'d', 'v', 'l', 'h'}) {
            Signatory book = bookOnDay5();
            giveLacking(book, lack);
            lackIs(book, book.sign(0, 1, 50, 0), lack, 0, 0, "one power of " + lack);
        }
        Signatory book = bookOnDay5();
        lackIsNoPower(book, book.sign(0, 1, 50, 0), "no power");
    }

    private static void theLastInThisOrder() {
        checks.sentence("Terms: otherwise it is the one of 'd', 'v', 'l' and 'h' that comes last in this order"
                + " among those of these powers");
        String order = "dvlh";
        for (int one = 0; one < 4; one++) {
            for (int two = 0; two < 4; two++) {
                Signatory book = bookOnDay5();
                giveLacking(book, order.charAt(one));
                giveLacking(book, order.charAt(two));
                int power = two > one ? 1 : 0;
                lackIs(book, book.sign(0, 1, 50, 0), order.charAt(Math.max(one, two)), power, 0,
                        order.charAt(one) + " and " + order.charAt(two));
            }
        }
    }

    private static void otherHandsWereNeeded() {
        checks.sentence("Terms: where 'h' is that of a power without a fault, as other hands were needed.");
        Signatory book = bookOnDay5();
        book.grant(0, 1, 'a', 50, 5, 5);
        book.grant(1, 1, 'a', 50, 5, 5);
        book.grant(2, 1, 'b', 49, 5, 5);
        lackIs(book, book.sign(0, 1, 50, 0), 'h', 0, 0, "a without another one");
        lackIs(book, book.sign(2, 1, 49, 1), 'h', 2, 0, "b without another one");
        lackIs(book, book.signTogether(1, 0, 1, 50, 2), 'h', 0, 0, "a and a");
        lackIs(book, book.signTogether(0, 2, 1, 50, 3), 'h', 0, 0, "a, and b whose limit is one less");
        lackIs(book, book.signTogether(2, 1, 1, 51, 4), 'l', 1, 0, "a and b whose limits are less");
    }

    private static void lowestNumber() {
        checks.sentence("Terms: The power of the lack is the one with the lowest number that has this lack.");
        for (char lack : new char[] {'d', 'v', 'l', 'h'}) {
            Signatory book = bookOnDay5();
            book.grant(1, 1, 's', 50, 5, 5);
            book.grant(0, 2, 's', 50, 5, 5);
            giveLacking(book, lack);
            giveLacking(book, lack);
            giveLacking(book, lack);
            lackIs(book, book.sign(0, 1, 50, 0), lack, 2, 0, "the first of three of " + lack);
        }
        Signatory full = bookOnDay5();
        for (int power = 0; power < 19; power++) {
            giveLacking(full, power % 2 == 0 ? 'd' : 'v');
        }
        giveLacking(full, 'l');
        lackIs(full, full.sign(0, 1, 50, 0), 'l', 19, 0, "the last of 20 powers");
        lackIs(full, full.sign(0, 1, 49, 0), 'l', 19, 0, "the last of 20 powers, by the sum");
    }

    private static void powersOfOneOfItsSigners() {
        checks.sentence("Terms: is found from all powers of its kind by which one of its signers acted then");
        Signatory book = bookOnDay5();
        book.grant(1, 1, 's', 49, 5, 5);
        lackIs(book, book.signTogether(0, 1, 1, 50, 0), 'l', 0, 0, "of the second signer");
        lackIs(book, book.signTogether(1, 0, 1, 50, 1), 'l', 0, 0, "of the first signer");
        book.grant(0, 1, 'a', 50, 5, 5);
        lackIs(book, book.signTogether(0, 1, 1, 50, 2), 'h', 1, 0, "of both");
        lackIs(book, book.sign(1, 1, 50, 3), 'l', 0, 0, "of one signer alone");
        book.leave(0, 2);
        lackIs(book, book.sign(2, 1, 50, 4), 'h', 1, 0, "of an absent person");
        lackIs(book, book.sign(0, 1, 50, 5), 'h', 1, 0, "of the absent person's own");
        lackIs(book, book.signTogether(1, 2, 1, 50, 6), 'h', 1, 0, "of an absent person, for the second signer");
        book.comeBack(0);
        lackIsNoPower(book, book.sign(2, 1, 50, 7), "of one who is present again");
    }

    private static void stoodWhenSigned() {
        Signatory book = bookOnDay5();
        book.grant(0, 1, 's', 50, 5, 5);
        book.sign(0, 1, 50, 0);
        book.sign(0, 1, 51, 1);
        book.grant(1, 1, 's', 99, 5, 5);
        book.ratify(1, 1);
        book.sign(0, 1, 51, 2);
        book.annul(2);
        book.revoke(0);
        book.pass(1);
        checks.sentence("29: Throws `NoSuchElementException` if it stood when it was signed");
        checks.noElement("it stood, the limit", () -> book.lack(0));
        checks.due("it was ratified", 'l', () -> book.lack(1));
        checks.due("it was annulled", 'l', () -> book.lack(2));
        checks.sentence("30: Throws `NoSuchElementException` if it stood when it was signed, or its lack is 'k'");
        checks.noElement("it stood, the limit", () -> book.lackPower(0));
        checks.due("it was ratified", 0, () -> book.lackPower(1));
        checks.due("it was annulled", 0, () -> book.lackPower(2));
        checks.sentence("31: Throws `NoSuchElementException` if it stood when it was signed, or its lack is 'k'");
        checks.noElement("it stood, the limit", () -> book.lackDepth(0));
        checks.due("it was ratified", 0, () -> book.lackDepth(1));
        checks.due("it was annulled", 0, () -> book.lackDepth(2));
    }

    private static void lackOfNoPower() {
        Signatory book = bookOnDay5();
        book.sign(0, 1, 50, 0);
        book.grant(0, 1, 'a', 50, 5, 5);
        book.sign(0, 1, 50, 1);
        checks.sentence("30: Throws `NoSuchElementException` if it stood when it was signed, or its lack is 'k'");
        checks.noElement("no power", () -> book.lackPower(0));
        checks.due("a power", 0, () -> book.lackPower(1));
        checks.sentence("31: Throws `NoSuchElementException` if it stood when it was signed, or its lack is 'k'");
        checks.noElement("no power", () -> book.lackDepth(0));
        checks.due("a power", 0, () -> book.lackDepth(1));
    }

    private static void lackOfThen() {
        checks.sentence("Terms: The lack of a deed that did not stand when it was signed is found from all powers of its kind"
                + " by which one of its signers acted then");
        Signatory book = bookOnDay5();
        book.sign(0, 1, 50, 0);
        book.grant(0, 1, 's', 49, 5, 5);
        lackIsNoPower(book, 0, "granted just behind it");
        book.sign(0, 1, 50, 1);
        book.revoke(0);
        lackIs(book, 1, 'l', 0, 0, "revoked just behind it");
        book.sign(0, 1, 50, 2);
        book.pass(1);
        lackIs(book, 2, 'v', 0, 0, "a day behind it");
        lackIs(book, book.sign(0, 1, 50, 3), 'd', 0, 0, "on the next day");
        book.leave(1, 0);
        book.grant(1, 1, 'a', 50, 0, 999);
        lackIs(book, 3, 'd', 0, 0, "a substitute just behind it");
        lackIs(book, book.sign(0, 1, 50, 4), 'h', 1, 0, "a substitute just ahead of it");
    }

    private static void boundaryOfEachLack() {
        checks.sentence("Terms: the fault of a power for a sum on a day, as the lack of a deed");
        Signatory book = Books.with(1);
        book.grant(0, 1, 'a', 50, 1, 2);
        lackIs(book, book.sign(0, 1, 50, 0), 'd', 0, 0, "a day ahead of the first");
        book.pass(1);
        lackIs(book, book.sign(0, 1, 50, 1), 'h', 0, 0, "the first day, the limit");
        lackIs(book, book.sign(0, 1, 1, 1), 'l', 0, 0, "the sum is one more than the limit");
        book.pass(1);
        lackIs(book, book.sign(0, 1, 50, 2), 'h', 0, 0, "the last day");
        book.pass(1);
        lackIs(book, book.sign(0, 1, 50, 3), 'd', 0, 0, "a day behind the last");
        Signatory great = Books.with(1);
        great.grant(0, 1, 's', 99999, 0, 999);
        for (int deed = 0; deed < 10; deed++) {
            great.sign(0, 1, 9999, 0);
        }
        checks.noElement("a sum of 99990", () -> great.lack(9));
        lackIs(great, great.sign(0, 1, 10, 0), 'l', 0, 0, "a sum of 100000");
    }

    private static void stepsOfTheLack() {
        checks.sentence("31: Returns the number of steps, 0 for the lack 'h'.");
        Signatory book = Books.with(3);
        book.grant(0, 1, 'a', 50, 0, 999);
        book.delegate(0, 1, 40, 0, 999);
        book.delegate(1, 2, 30, 0, 999);
        lackIs(book, book.sign(2, 1, 30, 0), 'h', 2, 0, "the limit");
        lackIs(book, book.sign(2, 1, 31, 1), 'l', 2, 0, "its own limit");
        lackIs(book, book.sign(2, 1, 41, 2), 'l', 2, 1, "the source's limit");
        lackIs(book, book.sign(2, 1, 51, 3), 'l', 2, 2, "the limit of the source's source");
        book.revoke(1);
        lackIs(book, book.sign(2, 1, 30, 4), 'v', 2, 1, "the source is revoked");
        book.delegate(0, 2, 30, 1, 1);
        lackIs(book, book.sign(2, 1, 30, 5), 'v', 2, 1, "beside a power that is not of today");
        book.pass(1);
        lackIs(book, book.sign(2, 1, 30, 6), 'h', 3, 0, "the other power without a fault");
        lackIs(book, book.sign(2, 1, 51, 7), 'l', 2, 2, "both, the lowest number");
    }

    private static void longestChain() {
        checks.sentence("31: Returns the number of steps (of 20 powers)");
        Signatory book = Books.with(8);
        book.grant(0, 1, 's', 50, 0, 0);
        for (int power = 1; power < 19; power++) {
            book.delegate(power - 1, power % 6, 50, 0, 0);
        }
        book.delegate(18, 7, 50, 0, 0);
        lackIs(book, book.sign(7, 1, 51, 0), 'l', 19, 19, "the limit");
        book.revoke(0);
        lackIs(book, book.sign(7, 1, 1, 1), 'v', 19, 19, "revoked");
        book.pass(1);
        lackIs(book, book.sign(7, 1, 1, 2), 'd', 19, 19, "the day");
    }
}
