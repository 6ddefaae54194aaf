/** Promises 6 to 14: grant, delegate, lower, revoke, source, limit, fault, faultDepth, reach. */
public final class PowersTest {
    private static final int[] NO_NUMBERS = {-1, -2, 99, Integer.MIN_VALUE, Integer.MAX_VALUE};
    private static final int[] NO_SUMS = {0, -1, 100000, Integer.MIN_VALUE, Integer.MAX_VALUE};
    private static final Checks checks = new Checks("PowersTest");

    public static void main(String[] args) {
        promise6Grant();
        promise6Order();
        promise7Delegate();
        promise7Order();
        promise8Lower();
        promise9Revoke();
        promise10Source();
        promise11Limit();
        promise12Fault();
        promise13FaultDepth();
        promise14Reach();
        checks.end();
    }

    /** Power 0 of person 0, from it power 1 of person 1, from this power 2 of person 2; all of kind 1 and hand s. */
    private static Signatory chain() {
        Signatory book = Books.with(3);
        book.grant(0, 1, 's', 100, 0, 50);
        book.delegate(0, 1, 80, 5, 40);
        book.delegate(1, 2, 60, 10, 30);
        return book;
    }

    private static void promise6Grant() {
        Signatory book = Books.with(2);
        checks.due("6: first power", 0, () -> book.grant(0, 0, 's', 1, 0, 0));
        checks.due("6: one holder may hold more", 1, () -> book.grant(0, 3, 'a', 99999, 999, 999));
        checks.due("6: hand b, all days", 2, () -> book.grant(1, 2, 'b', 500, 0, 999));
        checks.due("6: the limit", 99999, () -> book.limit(1));
        for (int wrong : new int[] {-1, 2, Integer.MIN_VALUE, Integer.MAX_VALUE}) {
            checks.index("6: no person " + wrong, () -> book.grant(wrong, 0, 's', 1, 0, 0));
        }
        for (int wrong : new int[] {-1, 4, Integer.MIN_VALUE, Integer.MAX_VALUE}) {
            checks.argument("6: no kind " + wrong, () -> book.grant(0, wrong, 's', 1, 0, 0));
        }
        for (char wrong : new char[] {'c', 'S', 'A', '-', 0, (char) 65535, 'r', 't'}) {
            checks.argument("6: no hand " + (int) wrong, () -> book.grant(0, 0, wrong, 1, 0, 0));
        }
        for (int wrong : NO_SUMS) {
            checks.argument("6: no limit " + wrong, () -> book.grant(0, 0, 's', wrong, 0, 0));
        }
        for (int wrong : new int[] {-1, 1000, Integer.MIN_VALUE, Integer.MAX_VALUE}) {
            checks.argument("6: no first day " + wrong, () -> book.grant(0, 0, 's', 1, wrong, 999));
            checks.argument("6: no last day " + wrong, () -> book.grant(0, 0, 's', 1, 0, wrong));
            checks.argument("6: no days " + wrong, () -> book.grant(0, 0, 's', 1, wrong, wrong));
        }
        checks.argument("6: last ahead of first", () -> book.grant(0, 0, 's', 1, 10, 9));
        checks.due("6: the wrong calls made none", 3, () -> book.grant(0, 0, 's', 1, 10, 10));
    }

    private static void promise6Order() {
        Signatory book = Books.with(2);
        checks.index("6: person ahead of the rest", () -> book.grant(2, 4, 'x', 0, -1, -1));
        for (int power = 0; power < 20; power++) {
            int due = power;
            checks.due("6: twenty powers", due, () -> book.grant(0, 0, 's', 5, 0, 9));
        }
        checks.state("6: a power too many", () -> book.grant(0, 0, 's', 5, 0, 9));
        checks.argument("6: argument ahead of room", () -> book.grant(0, 0, 's', 0, 0, 9));
        checks.index("6: person ahead of room", () -> book.grant(-1, 0, 's', 5, 0, 9));
        checks.state("6: room for a delegated one neither", () -> book.delegate(0, 1, 5, 0, 9));
        checks.due("6: the twentieth is there", 5, () -> book.limit(19));
        checks.index("6: no other", () -> book.limit(20));
    }

    private static void promise7Delegate() {
        Signatory book = Books.with(3);
        book.grant(0, 2, 'a', 100, 10, 50);
        book.grant(2, 2, 'b', 100, 0, 999);
        book.pass(10);
        checks.due("7: the same limit and days", 2, () -> book.delegate(0, 1, 100, 10, 50));
        checks.due("7: the same kind and hand", true, () -> book.canSignTogether(1, 2, 2, 100));
        checks.due("7: no other kind", false, () -> book.canSignTogether(1, 2, 1, 1));
        checks.due("7: no other hand", false, () -> book.canSignTogether(1, 0, 2, 1));
        checks.due("7: less of all", 3, () -> book.delegate(2, 0, 1, 11, 11));
        checks.due("7: back to the first holder", 2, () -> book.source(3));
        checks.unsupported("7: limit above", () -> book.delegate(0, 1, 101, 10, 50));
        checks.unsupported("7: a day ahead", () -> book.delegate(0, 1, 100, 9, 50));
        checks.unsupported("7: a day behind", () -> book.delegate(0, 1, 100, 10, 51));
        checks.unsupported("7: days ahead", () -> book.delegate(0, 1, 100, 0, 9));
        checks.unsupported("7: its holder", () -> book.delegate(0, 0, 50, 10, 50));
        book.lower(0, 60);
        checks.unsupported("7: above the lowered limit", () -> book.delegate(0, 1, 61, 10, 50));
        checks.due("7: the limit of the power alone counts", 4, () -> book.delegate(2, 2, 100, 10, 50));
        book.revoke(0);
        checks.state("7: revoked", () -> book.delegate(0, 1, 60, 10, 50));
        checks.due("7: only its source was revoked", 5, () -> book.delegate(2, 2, 5, 20, 30));
        book.leave(1, 2);
        checks.due("7: the substitute of the holder is not the holder", 6, () -> book.delegate(2, 2, 5, 20, 30));
    }

    private static void promise7Order() {
        Signatory book = Books.with(2);
        book.grant(0, 0, 's', 100, 10, 50);
        for (int wrong : NO_NUMBERS) {
            checks.index("7: no power " + wrong, () -> book.delegate(wrong, 1, 0, -1, -1));
            checks.index("7: no person " + wrong, () -> book.delegate(0, wrong, 0, -1, -1));
        }
        checks.index("7: power 1 is not there", () -> book.delegate(1, 1, 5, 10, 50));
        checks.index("7: person 2 is not there", () -> book.delegate(0, 2, 5, 10, 50));
        for (int wrong : NO_SUMS) {
            checks.argument("7: no limit " + wrong, () -> book.delegate(0, 0, wrong, 0, 999));
        }
        checks.argument("7: first below 0", () -> book.delegate(0, 0, 5, -1, 20));
        checks.argument("7: last above 999", () -> book.delegate(0, 0, 5, 10, 1000));
        checks.argument("7: last ahead of first", () -> book.delegate(0, 1, 5, 20, 19));
        book.revoke(0);
        checks.unsupported("7: holder ahead of revoked", () -> book.delegate(0, 0, 5, 10, 50));
        checks.unsupported("7: limit ahead of revoked", () -> book.delegate(0, 1, 101, 10, 50));
        checks.unsupported("7: day ahead of revoked", () -> book.delegate(0, 1, 5, 9, 50));
        checks.state("7: revoked", () -> book.delegate(0, 1, 5, 10, 50));
        checks.due("7: the wrong calls made none", 1, () -> book.grant(0, 0, 's', 100, 10, 50));
        for (int power = 2; power < 20; power++) {
            int due = power;
            checks.due("7: delegated up to twenty", due, () -> book.delegate(1, 1, 5, 10, 50));
        }
        checks.state("7: no room", () -> book.delegate(1, 1, 5, 10, 50));
        checks.unsupported("7: holder ahead of no room", () -> book.delegate(1, 0, 5, 10, 50));
    }

    private static void promise8Lower() {
        Signatory book = chain();
        checks.due("8: the limit before", 100, () -> book.lower(0, 70));
        checks.due("8: lowered", 70, () -> book.limit(0));
        checks.due("8: not that of what came from it", 80, () -> book.limit(1));
        checks.due("8: to the same", 70, () -> book.lower(0, 70));
        checks.argument("8: above", () -> book.lower(0, 71));
        for (int wrong : NO_SUMS) {
            checks.argument("8: no limit " + wrong, () -> book.lower(0, wrong));
        }
        for (int wrong : NO_NUMBERS) {
            checks.index("8: no power " + wrong, () -> book.lower(wrong, 0));
        }
        checks.index("8: power 3 is not there", () -> book.lower(3, 1));
        checks.due("8: the wrong calls changed nothing", 70, () -> book.limit(0));
        book.revoke(0);
        checks.due("8: of a revoked one too", 70, () -> book.lower(0, 1));
        checks.due("8: to 1", 1, () -> book.limit(0));
    }

    private static void promise9Revoke() {
        Signatory book = chain();
        book.grant(0, 1, 's', 100, 0, 50);
        book.delegate(0, 2, 80, 5, 40);
        checks.due("9: a leaf", 1, () -> book.revoke(2));
        checks.due("9: a revoked one is counted", 2, () -> book.revoke(1));
        checks.due("9: all that came from it", 4, () -> book.revoke(0));
        checks.state("9: again", () -> book.revoke(0));
        checks.state("9: the leaf again", () -> book.revoke(2));
        checks.due("9: only its source was revoked", 1, () -> book.revoke(4));
        checks.due("9: one beside it", 1, () -> book.revoke(3));
        for (int wrong : NO_NUMBERS) {
            checks.index("9: no power " + wrong, () -> book.revoke(wrong));
        }
        checks.index("9: power 5 is not there", () -> book.revoke(5));
    }

    private static void promise10Source() {
        Signatory book = chain();
        book.delegate(0, 2, 80, 5, 40);
        checks.due("10: granted", -1, () -> book.source(0));
        checks.due("10: one step", 0, () -> book.source(1));
        checks.due("10: the nearest", 1, () -> book.source(2));
        checks.due("10: a second one", 0, () -> book.source(3));
        book.revoke(0);
        checks.due("10: of a revoked one", 0, () -> book.source(1));
        for (int wrong : NO_NUMBERS) {
            checks.index("10: no power " + wrong, () -> book.source(wrong));
        }
        checks.index("10: power 4 is not there", () -> book.source(4));
    }

    private static void promise11Limit() {
        Signatory book = chain();
        checks.due("11: granted", 100, () -> book.limit(0));
        checks.due("11: delegated", 60, () -> book.limit(2));
        book.lower(1, 7);
        checks.due("11: lowered", 7, () -> book.limit(1));
        checks.due("11: its own alone", 60, () -> book.limit(2));
        book.revoke(1);
        checks.due("11: of a revoked one", 7, () -> book.limit(1));
        for (int wrong : NO_NUMBERS) {
            checks.index("11: no power " + wrong, () -> book.limit(wrong));
        }
        checks.index("11: power 3 is not there", () -> book.limit(3));
    }

    private static void promise12Fault() {
        Signatory book = chain();
        checks.due("12: none on the first day", '-', () -> book.fault(0, 100));
        checks.due("12: above the limit", 'l', () -> book.fault(0, 101));
        checks.due("12: day goes ahead of limit", 'd', () -> book.fault(1, 81));
        checks.due("12: the source's limit goes ahead of both", 'l', () -> book.fault(1, 101));
        book.pass(4);
        checks.due("12: a day before the first", 'd', () -> book.fault(1, 1));
        book.pass(1);
        checks.due("12: on the first", '-', () -> book.fault(1, 80));
        checks.due("12: the source's limit goes ahead of the own day", 'l', () -> book.fault(2, 81));
        checks.due("12: the own day", 'd', () -> book.fault(2, 80));
        book.pass(25);
        checks.due("12: on the last", '-', () -> book.fault(2, 60));
        checks.due("12: the own limit", 'l', () -> book.fault(2, 61));
        book.revoke(1);
        checks.due("12: revoked goes ahead of limit", 'v', () -> book.fault(1, 81));
        checks.due("12: source revoked", 'v', () -> book.fault(2, 1));
        checks.due("12: the source's source's limit goes ahead", 'l', () -> book.fault(2, 101));
        checks.due("12: not of its source", '-', () -> book.fault(0, 1));
        book.pass(11);
        checks.due("12: day goes ahead of revoked", 'd', () -> book.fault(1, 1));
        book.revoke(0);
        checks.due("12: the source's revoked goes ahead of the own day", 'v', () -> book.fault(1, 1));
        book.pass(10);
        checks.due("12: a day behind the last", 'd', () -> book.fault(0, 1));
        for (int wrong : NO_SUMS) {
            checks.argument("12: no sum " + wrong, () -> book.fault(0, wrong));
        }
        for (int wrong : NO_NUMBERS) {
            checks.index("12: no power " + wrong, () -> book.fault(wrong, 0));
        }
        checks.index("12: power 3 is not there", () -> book.fault(3, 1));
    }

    private static void promise13FaultDepth() {
        Signatory book = chain();
        checks.noElement("13: no fault", () -> book.faultDepth(0, 100));
        checks.due("13: its own", 0, () -> book.faultDepth(0, 101));
        checks.due("13: of the source, though it has one too", 1, () -> book.faultDepth(2, 100));
        checks.due("13: of the source's source", 2, () -> book.faultDepth(2, 101));
        checks.due("13: one step", 1, () -> book.faultDepth(1, 101));
        book.pass(10);
        checks.due("13: its own, further down", 0, () -> book.faultDepth(2, 61));
        book.lower(0, 50);
        checks.due("13: lowered", 2, () -> book.faultDepth(2, 61));
        checks.noElement("13: none within it", () -> book.faultDepth(2, 50));
        for (int wrong : NO_SUMS) {
            checks.argument("13: no sum " + wrong, () -> book.faultDepth(0, wrong));
        }
        for (int wrong : NO_NUMBERS) {
            checks.index("13: no power " + wrong, () -> book.faultDepth(wrong, 0));
        }
        checks.index("13: power 3 is not there", () -> book.faultDepth(3, 1));
        deepest();
    }

    private static void deepest() {
        Signatory book = Books.with(2);
        book.grant(0, 0, 's', 99999, 0, 999);
        for (int power = 0; power < 19; power++) {
            book.delegate(power, (power + 1) % 2, 99999, 0, 999);
        }
        checks.noElement("13: the longest chain", () -> book.faultDepth(19, 99999));
        book.lower(0, 99998);
        checks.due("13: nineteen steps", 19, () -> book.faultDepth(19, 99999));
        checks.due("14: over nineteen steps", 99998, () -> book.reach(19));
        checks.due("9: a chain of twenty", 20, () -> book.revoke(0));
    }

    private static void promise14Reach() {
        Signatory book = chain();
        checks.due("14: its limit", 100, () -> book.reach(0));
        checks.due("14: not one of its days", 0, () -> book.reach(1));
        book.pass(10);
        checks.due("14: the own limit is the least", 60, () -> book.reach(2));
        book.lower(0, 50);
        checks.due("14: the source's source's is", 50, () -> book.reach(2));
        checks.due("14: for the source too", 50, () -> book.reach(1));
        book.lower(1, 40);
        checks.due("14: the one between", 40, () -> book.reach(2));
        checks.due("14: not what came from it", 50, () -> book.reach(0));
        book.lower(2, 1);
        checks.due("14: down to 1", 1, () -> book.reach(2));
        book.revoke(1);
        checks.due("14: revoked", 0, () -> book.reach(1));
        checks.due("14: source revoked", 0, () -> book.reach(2));
        checks.due("14: not its source", 50, () -> book.reach(0));
        book.pass(41);
        checks.due("14: behind its days", 0, () -> book.reach(0));
        for (int wrong : NO_NUMBERS) {
            checks.index("14: no power " + wrong, () -> book.reach(wrong));
        }
        checks.index("14: power 3 is not there", () -> book.reach(3));
    }
}
