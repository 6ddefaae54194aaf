/** The sentences of promises 6 to 14 that name a boundary case, each with a test of its own. */
public final class PowersEdgesTest {
    private static final Checks checks = new Checks("PowersEdgesTest");

    public static void main(String[] args) {
        numberOfTheGrantedPower();
        noSuchHolder();
        kindsToGrant();
        handsToGrant();
        limitsToGrant();
        daysToGrant();
        twentyPowersGranted();
        sameKindAndHand();
        noSuchPowerOrHolderToDelegate();
        limitsAndDaysToDelegate();
        newHolderHoldsThePower();
        limitGreaterThanThatOfThePower();
        limitGreaterThanTheLoweredOne();
        daysNotThoseOfThePower();
        revokedPowerToDelegate();
        twentyPowersDelegated();
        limitBefore();
        noSuchPowerToLower();
        limitsToLowerTo();
        numberOfRevokedPowers();
        noSuchPowerToRevoke();
        revokedBefore();
        sourceOrNone();
        noSuchPowerToAsk();
        limitsOfPowers();
        checks.end();
    }

    private static void numberOfTheGrantedPower() {
        checks.sentence("6: Returns the number of the power.");
        Signatory book = Books.with(2);
        for (int power = 0; power < 20; power++) {
            int each = power;
            checks.index("power " + power + " is not there yet", () -> book.limit(each));
            checks.due("the number", power, () -> book.grant(each % 2, each % 4, 's', each + 1, 0, 0));
            checks.due("its limit", power + 1, () -> book.limit(each));
        }
    }

    private static void noSuchHolder() {
        checks.sentence("6: Throws `IndexOutOfBoundsException` if there is no such person");
        Signatory book = Books.with(3);
        for (int wrong : Books.outside(0, 2)) {
            checks.index("person " + wrong, () -> book.grant(wrong, 0, 's', 1, 0, 0));
        }
        checks.due("the first person", 0, () -> book.grant(0, 0, 's', 1, 0, 0));
        checks.due("the last person", 1, () -> book.grant(2, 0, 's', 1, 0, 0));
        checks.due("they hold them", 2, () -> book.signers(0, 1));
        checks.index("the empty book", () -> new Signatory().grant(0, 0, 's', 1, 0, 0));
        Signatory eight = Books.with(8);
        checks.index("person 8 of 8", () -> eight.grant(8, 0, 's', 1, 0, 0));
        checks.due("person 7 of 8", 0, () -> eight.grant(7, 0, 's', 1, 0, 0));
    }

    private static final String GRANT_ARGUMENTS = "6: Throws `IllegalArgumentException` if there is no such kind or hand,"
            + " the limit is not between 1 and 99999, or the days are not between 0 and 999,"
            + " the last one not ahead of the first one";

    private static void kindsToGrant() {
        checks.sentence(GRANT_ARGUMENTS + " (kind)");
        Signatory book = Books.with(1);
        for (int wrong : Books.outside(0, 3)) {
            checks.argument("kind " + wrong, () -> book.grant(0, wrong, 's', 1, 0, 0));
        }
        for (int kind = 0; kind < 4; kind++) {
            int each = kind;
            checks.due("nobody signs kind " + kind, 0, () -> book.signers(each, 1));
            checks.due("kind " + kind, kind, () -> book.grant(0, each, 's', 1, 0, 0));
            checks.due("somebody signs kind " + kind, 1, () -> book.signers(each, 1));
        }
    }

    private static void handsToGrant() {
        checks.sentence(GRANT_ARGUMENTS + " (hand)");
        Signatory book = Books.with(2);
        for (int sign = 0; sign < 384; sign++) {
            char hand = (char) sign;
            if (hand != 's' && hand != 'a' && hand != 'b') {
                checks.argument("hand " + sign, () -> book.grant(0, 0, hand, 1, 0, 0));
            }
        }
        checks.argument("hand 65535", () -> book.grant(0, 0, (char) 65535, 1, 0, 0));
        checks.due("hand a", 0, () -> book.grant(0, 0, 'a', 1, 0, 0));
        checks.due("hand b", 1, () -> book.grant(1, 0, 'b', 1, 0, 0));
        checks.due("together alone", 0, () -> book.signers(0, 1));
        checks.due("together", 1, () -> book.pairs(0, 1));
        checks.due("hand s", 2, () -> book.grant(1, 0, 's', 1, 0, 0));
        checks.due("alone", 1, () -> book.signers(0, 1));
    }

    private static void limitsToGrant() {
        checks.sentence(GRANT_ARGUMENTS + " (limit)");
        Signatory book = Books.with(1);
        for (int wrong : Books.outside(1, 99999)) {
            checks.argument("limit " + wrong, () -> book.grant(0, 0, 's', wrong, 0, 0));
        }
        checks.due("limit 1", 0, () -> book.grant(0, 0, 's', 1, 0, 0));
        checks.due("limit 99999", 1, () -> book.grant(0, 0, 's', 99999, 0, 0));
        checks.due("it is 1", 1, () -> book.limit(0));
        checks.due("it is 99999", 99999, () -> book.limit(1));
    }

    private static void daysToGrant() {
        checks.sentence(GRANT_ARGUMENTS + " (days)");
        Signatory book = Books.with(1);
        for (int wrong : Books.outside(0, 999)) {
            checks.argument("first day " + wrong, () -> book.grant(0, 0, 's', 1, wrong, 999));
            checks.argument("last day " + wrong, () -> book.grant(0, 0, 's', 1, 0, wrong));
            checks.argument("both days " + wrong, () -> book.grant(0, 0, 's', 1, wrong, wrong));
        }
        checks.argument("days -1 to 1000", () -> book.grant(0, 0, 's', 1, -1, 1000));
        checks.argument("days 1000 to -1", () -> book.grant(0, 0, 's', 1, 1000, -1));
        checks.argument("days 1 to 0", () -> book.grant(0, 0, 's', 1, 1, 0));
        checks.argument("days 999 to 998", () -> book.grant(0, 0, 's', 1, 999, 998));
        checks.argument("days 999 to 0", () -> book.grant(0, 0, 's', 1, 999, 0));
        checks.due("days 0 to 0", 0, () -> book.grant(0, 0, 's', 1, 0, 0));
        checks.due("days 0 to 999", 1, () -> book.grant(0, 0, 's', 1, 0, 999));
        checks.due("days 999 to 999", 2, () -> book.grant(0, 0, 's', 1, 999, 999));
        checks.due("days 500 to 500", 3, () -> book.grant(0, 0, 's', 1, 500, 500));
        checks.due("days 1 to 998", 4, () -> book.grant(0, 0, 's', 1, 1, 998));
    }

    private static void twentyPowersGranted() {
        checks.sentence("6: Throws `IllegalStateException` if there are 20 powers");
        Signatory book = Books.chain(19, 5, 0, 9);
        checks.due("there are 19", 19, () -> book.grant(0, 0, 's', 7, 0, 9));
        checks.state("there are 20", () -> book.grant(0, 0, 's', 7, 0, 9));
        book.revoke(19);
        checks.state("a revoked one makes no room", () -> book.grant(0, 0, 's', 7, 0, 9));
        book.pass(10);
        checks.state("nor do those whose days are over", () -> book.grant(0, 0, 's', 7, 0, 9));
        checks.due("the twentieth is there", 7, () -> book.limit(19));
        checks.index("no other one", () -> book.limit(20));
    }

    private static void sameKindAndHand() {
        checks.sentence("7: Delegates a power; the new one has the same kind and hand.");
        for (int kind = 0; kind < 4; kind++) {
            Signatory book = Books.with(6);
            book.grant(0, kind, 's', 9, 0, 0);
            book.grant(1, kind, 'a', 9, 0, 0);
            book.grant(2, kind, 'b', 9, 0, 0);
            book.delegate(0, 3, 8, 0, 0);
            book.delegate(1, 4, 8, 0, 0);
            book.delegate(2, 5, 8, 0, 0);
            for (int asked = 0; asked < 4; asked++) {
                int each = asked;
                boolean same = asked == kind;
                checks.due("hand s, kind " + kind + " for " + asked, same, () -> book.canSign(3, each, 8));
                checks.due("hand a is not s", false, () -> book.canSign(4, each, 8));
                checks.due("hand b is not s", false, () -> book.canSign(5, each, 8));
                checks.due("hand a with b", same, () -> book.canSignTogether(4, 2, each, 8));
                checks.due("hand a with a", false, () -> book.canSignTogether(4, 1, each, 8));
                checks.due("hand b with a", same, () -> book.canSignTogether(5, 1, each, 8));
                checks.due("hand b with b", false, () -> book.canSignTogether(5, 2, each, 8));
            }
        }
    }

    private static void noSuchPowerOrHolderToDelegate() {
        checks.sentence("7: Throws `IndexOutOfBoundsException` if there is no such power or person");
        Signatory book = Books.chain(3, 50, 10, 20);
        for (int wrong : Books.outside(0, 2)) {
            checks.index("power " + wrong, () -> book.delegate(wrong, 1, 50, 10, 20));
            checks.index("person " + wrong, () -> book.delegate(0, wrong, 50, 10, 20));
            checks.index("both " + wrong, () -> book.delegate(wrong, wrong, 50, 10, 20));
        }
        checks.due("the first power, the last person", 3, () -> book.delegate(0, 2, 50, 10, 20));
        checks.due("the last power, the first person", 4, () -> book.delegate(3, 0, 50, 10, 20));
        checks.index("the empty book", () -> new Signatory().delegate(0, 0, 1, 0, 0));
        checks.index("persons, but no powers", () -> Books.with(8).delegate(0, 1, 1, 0, 0));
        Signatory full = Books.full();
        checks.index("the full book, power 20", () -> full.delegate(20, 1, 1, 0, 0));
        checks.index("the full book, person 8", () -> full.delegate(0, 8, 1, 0, 0));
    }

    private static void limitsAndDaysToDelegate() {
        checks.sentence("7: Throws `IllegalArgumentException` if the limit is not between 1 and 99999,"
                + " or the days are not between 0 and 999, the last one not ahead of the first one");
        Signatory book = Books.with(2);
        book.grant(0, 0, 's', 99999, 0, 999);
        for (int wrong : Books.outside(1, 99999)) {
            checks.argument("limit " + wrong, () -> book.delegate(0, 1, wrong, 0, 999));
        }
        for (int wrong : Books.outside(0, 999)) {
            checks.argument("first day " + wrong, () -> book.delegate(0, 1, 1, wrong, 999));
            checks.argument("last day " + wrong, () -> book.delegate(0, 1, 1, 0, wrong));
            checks.argument("both days " + wrong, () -> book.delegate(0, 1, 1, wrong, wrong));
        }
        checks.argument("days 1 to 0", () -> book.delegate(0, 1, 1, 1, 0));
        checks.argument("days 999 to 998", () -> book.delegate(0, 1, 1, 999, 998));
        checks.due("limit 1, days 0 to 0", 1, () -> book.delegate(0, 1, 1, 0, 0));
        checks.due("limit 99999, days 999 to 999", 2, () -> book.delegate(0, 1, 99999, 999, 999));
        checks.due("days 0 to 999", 3, () -> book.delegate(0, 1, 2, 0, 999));
        checks.due("it is 1", 1, () -> book.limit(1));
        checks.due("it is 99999", 99999, () -> book.limit(2));
    }

    private static final String DELEGATE_UNSUPPORTED = "7: Throws `UnsupportedOperationException` if the new holder holds"
            + " the power, or the limit is greater than that of the power, or a day is not one of those of the power";

    private static void newHolderHoldsThePower() {
        checks.sentence(DELEGATE_UNSUPPORTED + " (holder)");
        Signatory book = Books.with(8);
        book.grant(7, 0, 's', 50, 10, 20);
        book.grant(0, 0, 's', 50, 10, 20);
        checks.unsupported("the last person", () -> book.delegate(0, 7, 50, 10, 20));
        checks.unsupported("the first person", () -> book.delegate(1, 0, 50, 10, 20));
        checks.due("one who holds another power", 2, () -> book.delegate(0, 0, 50, 10, 20));
        checks.due("the holder of the source", 3, () -> book.delegate(2, 7, 50, 10, 20));
        book.leave(7, 1);
        checks.due("one who acts by the power", 4, () -> book.delegate(0, 1, 50, 10, 20));
        checks.unsupported("an absent holder", () -> book.delegate(0, 7, 50, 10, 20));
    }

    private static void limitGreaterThanThatOfThePower() {
        checks.sentence(DELEGATE_UNSUPPORTED + " (limit)");
        Signatory book = Books.with(2);
        book.grant(0, 0, 's', 50, 10, 20);
        checks.unsupported("one more", () -> book.delegate(0, 1, 51, 10, 20));
        checks.unsupported("99999", () -> book.delegate(0, 1, 99999, 10, 20));
        checks.due("the same", 1, () -> book.delegate(0, 1, 50, 10, 20));
        checks.due("one less", 2, () -> book.delegate(0, 1, 49, 10, 20));
        checks.due("the least", 3, () -> book.delegate(0, 1, 1, 10, 20));
        checks.unsupported("above that of a delegated power", () -> book.delegate(2, 0, 50, 10, 20));
        checks.due("that of a delegated power", 4, () -> book.delegate(2, 0, 49, 10, 20));
    }

    private static void limitGreaterThanTheLoweredOne() {
        checks.sentence(DELEGATE_UNSUPPORTED + " (lowered limit)");
        Signatory book = Books.chain(2, 50, 10, 20);
        book.lower(0, 40);
        checks.unsupported("one more than the lowered limit", () -> book.delegate(0, 1, 41, 10, 20));
        checks.due("the lowered limit", 2, () -> book.delegate(0, 1, 40, 10, 20));
        checks.due("the limit of the power, though its source was lowered", 3, () -> book.delegate(1, 0, 50, 10, 20));
    }

    private static void daysNotThoseOfThePower() {
        checks.sentence(DELEGATE_UNSUPPORTED + " (days)");
        Signatory book = Books.with(2);
        book.grant(0, 0, 's', 50, 10, 20);
        checks.unsupported("9 to 20", () -> book.delegate(0, 1, 50, 9, 20));
        checks.unsupported("10 to 21", () -> book.delegate(0, 1, 50, 10, 21));
        checks.unsupported("9 to 21", () -> book.delegate(0, 1, 50, 9, 21));
        checks.unsupported("9 to 9", () -> book.delegate(0, 1, 50, 9, 9));
        checks.unsupported("21 to 21", () -> book.delegate(0, 1, 50, 21, 21));
        checks.unsupported("0 to 999", () -> book.delegate(0, 1, 50, 0, 999));
        checks.due("10 to 20", 1, () -> book.delegate(0, 1, 50, 10, 20));
        checks.due("10 to 10", 2, () -> book.delegate(0, 1, 50, 10, 10));
        checks.due("20 to 20", 3, () -> book.delegate(0, 1, 50, 20, 20));
        checks.due("11 to 19", 4, () -> book.delegate(0, 1, 50, 11, 19));
        checks.unsupported("those of the source, but not of the power", () -> book.delegate(4, 0, 50, 10, 19));
        book.pass(30);
        checks.due("days that are over", 5, () -> book.delegate(0, 1, 50, 10, 20));
    }

    private static final String DELEGATE_STATE =
            "7: Throws `IllegalStateException` if the power has been revoked, or there are 20 powers";

    private static void revokedPowerToDelegate() {
        checks.sentence(DELEGATE_STATE + " (revoked)");
        Signatory book = Books.chain(3, 50, 10, 20);
        book.revoke(1);
        checks.state("revoked", () -> book.delegate(1, 0, 50, 10, 20));
        checks.due("its source", 3, () -> book.delegate(0, 1, 50, 10, 20));
        checks.due("only its source was revoked", 4, () -> book.delegate(2, 0, 50, 10, 20));
        checks.state("revoked still", () -> book.delegate(1, 0, 1, 10, 10));
    }

    private static void twentyPowersDelegated() {
        checks.sentence(DELEGATE_STATE + " (20 powers)");
        Signatory book = Books.with(2);
        for (int power = 0; power < 19; power++) {
            book.grant(0, 0, 's', 5, 0, 9);
        }
        checks.due("there are 19", 19, () -> book.delegate(18, 1, 4, 0, 9));
        checks.state("there are 20", () -> book.delegate(18, 1, 4, 0, 9));
        checks.state("from the twentieth", () -> book.delegate(19, 0, 4, 0, 9));
        book.revoke(0);
        checks.state("a revoked one makes no room", () -> book.delegate(18, 1, 4, 0, 9));
        checks.due("the twentieth is there", 18, () -> book.source(19));
        checks.index("no other one", () -> book.source(20));
    }

    private static void limitBefore() {
        checks.sentence("8: Returns the limit before.");
        Signatory book = Books.with(1);
        book.grant(0, 0, 's', 99999, 0, 999);
        checks.due("the greatest", 99999, () -> book.lower(0, 99999));
        checks.due("not lowered by the same", 99999, () -> book.lower(0, 99998));
        checks.due("by one", 99998, () -> book.lower(0, 1));
        checks.due("the least", 1, () -> book.lower(0, 1));
    }

    private static void noSuchPowerToLower() {
        checks.sentence("8: Throws `IndexOutOfBoundsException` if there is no such power");
        Signatory book = Books.chain(3, 50, 0, 9);
        for (int wrong : Books.outside(0, 2)) {
            checks.index("power " + wrong, () -> book.lower(wrong, 50));
        }
        checks.due("the first", 50, () -> book.lower(0, 49));
        checks.due("the last", 50, () -> book.lower(2, 48));
        checks.due("the one between is as it was", 50, () -> book.limit(1));
        checks.index("the empty book", () -> new Signatory().lower(0, 1));
        Signatory full = Books.full();
        checks.index("the full book, power 20", () -> full.lower(20, 1));
        checks.due("the full book, power 19", 1000, () -> full.lower(19, 1));
    }

    private static void limitsToLowerTo() {
        checks.sentence("8: Throws `IllegalArgumentException` if the new limit is not between 1 and the limit");
        Signatory book = Books.chain(2, 50, 0, 9);
        for (int wrong : Books.outside(1, 50)) {
            checks.argument("limit " + wrong, () -> book.lower(0, wrong));
        }
        checks.due("the same", 50, () -> book.lower(0, 50));
        checks.due("one less", 50, () -> book.lower(0, 49));
        checks.argument("the limit of before", () -> book.lower(0, 50));
        checks.due("above that of its source", 50, () -> book.lower(1, 50));
        checks.due("refused calls left it", 49, () -> book.lower(0, 1));
        checks.argument("2 is above 1", () -> book.lower(0, 2));
        checks.argument("0 is below 1", () -> book.lower(0, 0));
        checks.due("it is 1", 1, () -> book.limit(0));
    }

    private static void numberOfRevokedPowers() {
        checks.sentence("9: Returns the number of powers, this one included, that have it as their source,"
                + " or the source of their source, and so on.");
        checks.due("one alone", 1, () -> Books.chain(1, 5, 0, 9).revoke(0));
        checks.due("a chain of 20", 20, () -> Books.chain(20, 5, 0, 9).revoke(0));
        checks.due("from its middle", 10, () -> Books.chain(20, 5, 0, 9).revoke(10));
        checks.due("the last of it", 1, () -> Books.chain(20, 5, 0, 9).revoke(19));
        Signatory star = Books.with(2);
        star.grant(0, 0, 's', 5, 0, 9);
        for (int power = 1; power < 20; power++) {
            star.delegate(0, 1, 5, 0, 9);
        }
        checks.due("one of a star", 1, () -> star.revoke(1));
        checks.due("a star of 20, with one that was revoked before", 20, () -> star.revoke(0));
        checks.due("20 beside one another", 1, () -> Books.full().revoke(0));
    }

    private static void noSuchPowerToRevoke() {
        checks.sentence("9: Throws `IndexOutOfBoundsException` if there is no such power");
        Signatory book = Books.chain(3, 50, 0, 9);
        for (int wrong : Books.outside(0, 2)) {
            checks.index("power " + wrong, () -> book.revoke(wrong));
        }
        checks.due("refused calls revoked none", '-', () -> book.fault(2, 50));
        checks.due("the last", 1, () -> book.revoke(2));
        checks.due("the first", 3, () -> book.revoke(0));
        checks.index("the empty book", () -> new Signatory().revoke(0));
        Signatory full = Books.full();
        checks.index("the full book, power 20", () -> full.revoke(20));
        checks.due("the full book, power 19", 1, () -> full.revoke(19));
    }

    private static void revokedBefore() {
        checks.sentence("9: Throws `IllegalStateException` if it has been revoked");
        Signatory book = Books.chain(3, 50, 0, 9);
        book.revoke(1);
        checks.state("again", () -> book.revoke(1));
        checks.state("and again", () -> book.revoke(1));
        checks.due("only its source was revoked", 1, () -> book.revoke(2));
        checks.due("only what came from it was revoked", 3, () -> book.revoke(0));
        checks.due("a refused call changed nothing", 'v', () -> book.fault(1, 50));
    }

    private static void sourceOrNone() {
        checks.sentence("10: Returns the number of the power, or -1 if it was granted.");
        Signatory book = Books.chain(20, 5, 0, 9);
        checks.due("granted", -1, () -> book.source(0));
        for (int power = 1; power < 20; power++) {
            int each = power;
            checks.due("the source of " + power, power - 1, () -> book.source(each));
        }
        Signatory full = Books.full();
        checks.due("granted, the twentieth", -1, () -> full.source(19));
    }

    private static void noSuchPowerToAsk() {
        Signatory book = Books.chain(3, 50, 0, 9);
        Signatory full = Books.full();
        checks.sentence("10: Throws `IndexOutOfBoundsException` if there is no such power");
        for (int wrong : Books.outside(0, 2)) {
            checks.index("power " + wrong, () -> book.source(wrong));
        }
        checks.due("the last power", 1, () -> book.source(2));
        checks.index("the empty book", () -> new Signatory().source(0));
        checks.index("the full book, power 20", () -> full.source(20));
        checks.sentence("11: Throws `IndexOutOfBoundsException` if there is no such power");
        for (int wrong : Books.outside(0, 2)) {
            checks.index("power " + wrong, () -> book.limit(wrong));
        }
        checks.due("the last power", 50, () -> book.limit(2));
        checks.index("the empty book", () -> new Signatory().limit(0));
        checks.due("the full book, power 19", 1000, () -> full.limit(19));
        checks.index("the full book, power 20", () -> full.limit(20));
    }

    private static void limitsOfPowers() {
        checks.sentence("11: Returns the limit.");
        Signatory book = Books.with(2);
        book.grant(0, 0, 's', 99999, 5, 6);
        book.delegate(0, 1, 99998, 5, 6);
        checks.due("the greatest", 99999, () -> book.limit(0));
        checks.due("its own", 99998, () -> book.limit(1));
        book.lower(0, 1);
        checks.due("the least", 1, () -> book.limit(0));
        checks.due("its own, though that of the source was lowered", 99998, () -> book.limit(1));
        book.revoke(1);
        checks.due("revoked, ahead of its days", 99998, () -> book.limit(1));
    }
}
