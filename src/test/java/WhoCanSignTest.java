/** Promises 15 to 19: canSign, canSignTogether, signers, pairs, pairsByTrying. */
public final class WhoCanSignTest {
    private static final int[] NO_NUMBERS = {-1, -2, 99, Integer.MIN_VALUE, Integer.MAX_VALUE};
    private static final int[] NO_KINDS = {-1, 4, Integer.MIN_VALUE, Integer.MAX_VALUE};
    private static final int[] NO_SUMS = {0, -1, 100000, Integer.MIN_VALUE, Integer.MAX_VALUE};
    private static final Checks checks = new Checks("WhoCanSignTest");

    public static void main(String[] args) {
        promise15CanSign();
        promise16CanSignTogether();
        promise17Signers();
        promises18And19Pairs();
        promises18And19WrongInputs();
        checks.end();
    }

    private static void promise15CanSign() {
        Signatory book = Books.with(4);
        book.grant(0, 1, 's', 99999, 1, 2);
        book.grant(1, 1, 'a', 500, 0, 999);
        book.grant(1, 1, 'b', 500, 0, 999);
        checks.due("15: not one of its days", false, () -> book.canSign(0, 1, 1));
        book.pass(1);
        checks.due("15: up to the limit", true, () -> book.canSign(0, 1, 99999));
        checks.due("15: another kind", false, () -> book.canSign(0, 0, 1));
        checks.due("15: both other hands are not enough", false, () -> book.canSign(1, 1, 1));
        checks.due("15: no power", false, () -> book.canSign(2, 1, 1));
        book.leave(0, 2);
        checks.due("15: the substitute", true, () -> book.canSign(2, 1, 1));
        checks.due("15: the absent one still", true, () -> book.canSign(0, 1, 1));
        book.leave(2, 3);
        checks.due("15: absent substitute", true, () -> book.canSign(2, 1, 1));
        checks.due("15: not by two steps", false, () -> book.canSign(3, 1, 1));
        book.leave(0, -1);
        checks.due("15: no substitute", false, () -> book.canSign(2, 1, 1));
        checks.due("15: nobody else", false, () -> book.canSign(1, 1, 1));
        book.lower(0, 10);
        checks.due("15: the lowered limit", true, () -> book.canSign(0, 1, 10));
        checks.due("15: above it", false, () -> book.canSign(0, 1, 11));
        book.grant(0, 1, 's', 20, 0, 999);
        checks.due("15: any power is enough", true, () -> book.canSign(0, 1, 20));
        book.revoke(3);
        checks.due("15: revoked", false, () -> book.canSign(0, 1, 20));
        for (int wrong : NO_NUMBERS) {
            checks.index("15: no person " + wrong, () -> book.canSign(wrong, 9, 0));
        }
        checks.index("15: person 4 is not there", () -> book.canSign(4, 1, 1));
        for (int wrong : NO_KINDS) {
            checks.argument("15: no kind " + wrong, () -> book.canSign(0, wrong, 1));
        }
        for (int wrong : NO_SUMS) {
            checks.argument("15: no sum " + wrong, () -> book.canSign(0, 1, wrong));
        }
    }

    private static void promise16CanSignTogether() {
        Signatory book = Books.with(5);
        book.grant(0, 1, 'a', 100, 0, 999);
        book.grant(1, 1, 'b', 200, 0, 999);
        book.grant(2, 1, 's', 50, 0, 999);
        checks.due("16: a and b", true, () -> book.canSignTogether(0, 1, 1, 100));
        checks.due("16: b and a", true, () -> book.canSignTogether(1, 0, 1, 100));
        checks.due("16: above one limit", false, () -> book.canSignTogether(0, 1, 1, 101));
        checks.due("16: limits are not added", false, () -> book.canSignTogether(1, 0, 1, 201));
        checks.due("16: another kind", false, () -> book.canSignTogether(0, 1, 2, 1));
        checks.due("16: one alone", true, () -> book.canSignTogether(0, 2, 1, 50));
        checks.due("16: the other one alone", true, () -> book.canSignTogether(2, 3, 1, 50));
        checks.due("16: alone, above the limit", false, () -> book.canSignTogether(0, 2, 1, 51));
        checks.due("16: hand s is not a or b", false, () -> book.canSignTogether(2, 1, 1, 51));
        book.grant(0, 1, 'b', 100, 0, 999);
        checks.due("16: one with both hands needs another", false, () -> book.canSignTogether(0, 3, 1, 1));
        book.leave(1, 0);
        checks.due("16: the absent one and its substitute", true, () -> book.canSignTogether(0, 1, 1, 1));
        book.leave(0, 4);
        checks.due("16: the substitute of both hands with one", true, () -> book.canSignTogether(4, 1, 1, 1));
        checks.due("16: the absent one and the substitute", true, () -> book.canSignTogether(4, 0, 1, 1));
        for (int wrong : NO_NUMBERS) {
            checks.index("16: no person " + wrong, () -> book.canSignTogether(wrong, 0, 9, 0));
            checks.index("16: no other " + wrong, () -> book.canSignTogether(0, wrong, 9, 0));
            checks.index("16: neither " + wrong, () -> book.canSignTogether(wrong, wrong, 1, 1));
        }
        checks.index("16: person 5 is not there", () -> book.canSignTogether(5, 0, 1, 1));
        for (int wrong : NO_KINDS) {
            checks.argument("16: no kind " + wrong, () -> book.canSignTogether(0, 0, wrong, 1));
        }
        for (int wrong : NO_SUMS) {
            checks.argument("16: no sum " + wrong, () -> book.canSignTogether(0, 0, 1, wrong));
        }
        checks.unsupported("16: both the same", () -> book.canSignTogether(2, 2, 1, 1));
    }

    private static void promise17Signers() {
        Signatory book = Books.with(8);
        checks.due("17: none", 0, () -> book.signers(2, 1));
        book.grant(0, 2, 's', 100, 0, 0);
        book.grant(0, 2, 's', 100, 0, 0);
        checks.due("17: one with two powers", 1, () -> book.signers(2, 100));
        checks.due("17: above the limit", 0, () -> book.signers(2, 101));
        checks.due("17: another kind", 0, () -> book.signers(3, 1));
        book.grant(7, 2, 's', 99999, 0, 999);
        book.grant(1, 2, 'a', 99999, 0, 999);
        checks.due("17: the last person too", 2, () -> book.signers(2, 100));
        book.leave(0, 3);
        checks.due("17: with a substitute", 3, () -> book.signers(2, 100));
        checks.due("17: the greatest sum", 1, () -> book.signers(2, 99999));
        book.leave(0, -1);
        checks.due("17: without a substitute", 2, () -> book.signers(2, 100));
        book.leave(0, 3);
        book.pass(1);
        checks.due("17: a day later", 1, () -> book.signers(2, 1));
        for (int wrong : NO_KINDS) {
            checks.argument("17: no kind " + wrong, () -> book.signers(wrong, 1));
        }
        for (int wrong : NO_SUMS) {
            checks.argument("17: no sum " + wrong, () -> book.signers(2, wrong));
        }
    }

    private static void pairsAre(String what, int want, Signatory book, int kind, int sum) {
        checks.due("18: " + what, want, () -> book.pairs(kind, sum));
        checks.due("19: " + what, want, () -> book.pairsByTrying(kind, sum));
    }

    private static void promises18And19Pairs() {
        Signatory book = Books.with(1);
        book.grant(0, 0, 's', 100, 0, 999);
        pairsAre("one person is no pair", 0, book, 0, 1);
        for (int person = 1; person < 8; person++) {
            book.addPerson();
        }
        pairsAre("one alone with each other one", 7, book, 0, 100);
        pairsAre("above the limit", 0, book, 0, 101);
        book.grant(1, 0, 's', 90, 0, 999);
        pairsAre("two alone are one pair only once", 13, book, 0, 90);
        book.grant(2, 0, 'a', 80, 0, 999);
        book.grant(3, 0, 'b', 80, 0, 999);
        pairsAre("a with b beside them", 14, book, 0, 80);
        book.grant(4, 0, 'a', 80, 0, 999);
        book.grant(4, 0, 'b', 80, 0, 999);
        pairsAre("one with both hands", 16, book, 0, 80);
        book.grant(5, 0, 'a', 80, 0, 999);
        book.grant(5, 0, 'b', 80, 0, 999);
        pairsAre("two with both hands", 19, book, 0, 80);
        book.grant(1, 0, 'a', 999, 0, 999);
        book.grant(0, 0, 'b', 999, 0, 999);
        pairsAre("hands of those who sign alone change nothing", 19, book, 0, 80);
        pairsAre("hands of those whose limit is too low to sign alone", 1, book, 0, 200);
        pairsAre("another kind", 0, book, 1, 1);
        book.leave(0, 6);
        pairsAre("a substitute", 2, book, 0, 200);
        book.leave(1, 6);
        pairsAre("a substitute with both hands", 3, book, 0, 200);
        book.leave(0, -1);
        book.leave(1, -1);
        pairsAre("absent without substitutes", 1, book, 0, 200);
        pairsAre("absent, and some sign alone", 19, book, 0, 80);
        Signatory all = Books.with(8);
        for (int person = 0; person < 8; person++) {
            all.grant(person, 3, 's', 99999, 0, 0);
        }
        pairsAre("all alone", 28, all, 3, 99999);
        all.pass(1);
        pairsAre("a day later", 0, all, 3, 99999);
    }

    private static void promises18And19WrongInputs() {
        Signatory book = Books.with(2);
        for (int wrong : NO_KINDS) {
            checks.argument("18: no kind " + wrong, () -> book.pairs(wrong, 1));
            checks.argument("19: no kind " + wrong, () -> book.pairsByTrying(wrong, 1));
        }
        for (int wrong : NO_SUMS) {
            checks.argument("18: no sum " + wrong, () -> book.pairs(0, wrong));
            checks.argument("19: no sum " + wrong, () -> book.pairsByTrying(0, wrong));
        }
    }
}
