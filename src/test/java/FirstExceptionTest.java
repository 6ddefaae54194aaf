/** Of several exceptions that apply, the one that the document lists first is thrown; a test for each two of a method. */
public final class FirstExceptionTest {
    private static final Checks checks = new Checks("FirstExceptionTest");

    public static void main(String[] args) {
        checks.sentence("Terms: If several exceptions apply, the one that is listed first is thrown.");
        leaving();
        granting();
        grantingInTheFullBook();
        delegating();
        delegatingWhatWasRevoked();
        delegatingInTheFullBook();
        loweringAndFaults();
        whoCanSign();
        signing();
        signingTogether();
        ratifying();
        checks.end();
    }

    private static void leaving() {
        Signatory book = Books.with(8);
        checks.index("3: no person, both the same", () -> book.leave(8, 8));
        checks.index("3: no person, both -1", () -> book.leave(-1, -1));
        checks.index("3: no person, both -2", () -> book.leave(-2, -2));
    }

    private static void granting() {
        Signatory book = Books.with(8);
        checks.index("6: no person, no kind", () -> book.grant(8, 4, 's', 1, 0, 0));
        checks.index("6: no person, no hand", () -> book.grant(8, 0, 'x', 1, 0, 0));
        checks.index("6: no person, no limit", () -> book.grant(-1, 0, 's', 0, 0, 0));
        checks.index("6: no person, no days", () -> book.grant(-1, 0, 's', 1, 1, 0));
    }

    private static void grantingInTheFullBook() {
        Signatory full = Books.full();
        checks.index("6: no person, 20 powers", () -> full.grant(8, 0, 's', 1, 0, 0));
        checks.argument("6: no kind, 20 powers", () -> full.grant(0, 4, 's', 1, 0, 0));
        checks.argument("6: no hand, 20 powers", () -> full.grant(0, 0, 'x', 1, 0, 0));
        checks.argument("6: no limit, 20 powers", () -> full.grant(0, 0, 's', 100000, 0, 0));
        checks.argument("6: no first day, 20 powers", () -> full.grant(0, 0, 's', 1, -1, 0));
        checks.argument("6: no last day, 20 powers", () -> full.grant(0, 0, 's', 1, 0, 1000));
        checks.argument("6: last ahead of first, 20 powers", () -> full.grant(0, 0, 's', 1, 1, 0));
        checks.state("6: 20 powers", () -> full.grant(0, 0, 's', 1, 0, 0));
    }

    private static void delegating() {
        Signatory book = Books.chain(2, 50, 10, 20);
        checks.index("7: no power, no limit", () -> book.delegate(2, 1, 0, 10, 20));
        checks.index("7: no person, no limit", () -> book.delegate(0, 2, 0, 10, 20));
        checks.index("7: no person, no days", () -> book.delegate(0, -1, 50, 20, 10));
        checks.index("7: no person, limit above", () -> book.delegate(0, 2, 51, 10, 20));
        checks.index("7: no person, days not those of the power", () -> book.delegate(0, 2, 50, 9, 20));
        checks.argument("7: no limit, the holder", () -> book.delegate(0, 0, 0, 10, 20));
        checks.argument("7: limit 100000, which is above", () -> book.delegate(0, 1, 100000, 10, 20));
        checks.argument("7: no limit, days not those of the power", () -> book.delegate(0, 1, 0, 9, 20));
        checks.argument("7: no first day, which is not one of the power", () -> book.delegate(0, 1, 50, -1, 20));
        checks.argument("7: no last day, which is not one of the power", () -> book.delegate(0, 1, 50, 10, 1000));
        checks.argument("7: last ahead of first, the holder", () -> book.delegate(0, 0, 50, 20, 10));
        checks.argument("7: last ahead of first, limit above", () -> book.delegate(0, 1, 51, 12, 11));
        checks.argument("7: last ahead of first, days of no power", () -> book.delegate(0, 1, 50, 22, 21));
    }

    private static void delegatingWhatWasRevoked() {
        Signatory book = Books.chain(2, 50, 10, 20);
        book.revoke(0);
        checks.index("7: no person, revoked", () -> book.delegate(0, 2, 50, 10, 20));
        checks.argument("7: no limit, revoked", () -> book.delegate(0, 1, 0, 10, 20));
        checks.argument("7: no days, revoked", () -> book.delegate(0, 1, 50, 20, 10));
        checks.unsupported("7: the holder, revoked", () -> book.delegate(0, 0, 50, 10, 20));
        checks.unsupported("7: limit above, revoked", () -> book.delegate(0, 1, 51, 10, 20));
        checks.unsupported("7: first day not one of the power, revoked", () -> book.delegate(0, 1, 50, 9, 20));
        checks.unsupported("7: last day not one of the power, revoked", () -> book.delegate(0, 1, 50, 10, 21));
        checks.state("7: revoked", () -> book.delegate(0, 1, 50, 10, 20));
    }

    private static void delegatingInTheFullBook() {
        Signatory full = Books.full();
        checks.index("7: no power, 20 powers", () -> full.delegate(20, 1, 1000, 0, 999));
        checks.index("7: no person, 20 powers", () -> full.delegate(0, 8, 1000, 0, 999));
        checks.argument("7: no limit, 20 powers", () -> full.delegate(0, 1, 0, 0, 999));
        checks.argument("7: no days, 20 powers", () -> full.delegate(0, 1, 1000, 0, 1000));
        checks.unsupported("7: the holder, 20 powers", () -> full.delegate(0, 0, 1000, 0, 999));
        checks.unsupported("7: limit above, 20 powers", () -> full.delegate(0, 1, 1001, 0, 999));
        Signatory days = Books.chain(20, 50, 10, 20);
        checks.unsupported("7: first day not one of the power, 20 powers", () -> days.delegate(0, 1, 50, 9, 20));
        checks.unsupported("7: last day not one of the power, 20 powers", () -> days.delegate(0, 1, 50, 10, 21));
        checks.state("7: 20 powers", () -> days.delegate(0, 1, 50, 10, 20));
    }

    private static void loweringAndFaults() {
        Signatory book = Books.chain(2, 50, 10, 20);
        checks.index("8: no power, no limit", () -> book.lower(2, 0));
        checks.index("12: no power, no sum", () -> book.fault(2, 0));
        checks.index("13: no power, no sum", () -> book.faultDepth(-1, 100000));
        book.pass(10);
        checks.argument("13: no sum, and no fault for it", () -> book.faultDepth(0, 0));
        checks.argument("13: no sum, far below", () -> book.faultDepth(0, Integer.MIN_VALUE));
    }

    private static void whoCanSign() {
        Signatory book = Books.with(2);
        checks.index("15: no person, no kind", () -> book.canSign(2, 4, 1));
        checks.index("15: no person, no sum", () -> book.canSign(-1, 0, 0));
        checks.index("16: no person, no kind", () -> book.canSignTogether(2, 0, 4, 1));
        checks.index("16: no other one, no sum", () -> book.canSignTogether(0, 2, 0, 0));
        checks.index("16: no person, both the same", () -> book.canSignTogether(2, 2, 0, 1));
        checks.argument("16: no kind, both the same", () -> book.canSignTogether(1, 1, 4, 1));
        checks.argument("16: no sum, both the same", () -> book.canSignTogether(1, 1, 0, 0));
        checks.unsupported("16: both the same", () -> book.canSignTogether(1, 1, 0, 1));
    }

    private static void signing() {
        Signatory book = Books.with(2);
        checks.index("20: no person, no kind", () -> book.sign(2, 4, 1, 0));
        checks.index("20: no person, no amount", () -> book.sign(2, 0, 0, 0));
        checks.index("20: no person, no party", () -> book.sign(-1, 0, 1, 10));
        Signatory full = Books.full();
        checks.index("20: no person, 24 deeds", () -> full.sign(8, 0, 1, 0));
        checks.argument("20: no kind, 24 deeds", () -> full.sign(0, 4, 1, 0));
        checks.argument("20: no amount, 24 deeds", () -> full.sign(0, 0, 10000, 0));
        checks.argument("20: no party, 24 deeds", () -> full.sign(0, 0, 1, 10));
        checks.state("20: 24 deeds", () -> full.sign(0, 0, 1, 0));
    }

    private static void signingTogether() {
        Signatory book = Books.with(2);
        checks.index("21: no person, no kind", () -> book.signTogether(2, 0, 4, 1, 0));
        checks.index("21: no other one, no amount", () -> book.signTogether(0, 2, 0, 0, 0));
        checks.index("21: no other one, no party", () -> book.signTogether(0, -1, 0, 1, -1));
        checks.index("21: no person, both the same", () -> book.signTogether(2, 2, 0, 1, 0));
        checks.argument("21: no kind, both the same", () -> book.signTogether(1, 1, -1, 1, 0));
        checks.argument("21: no amount, both the same", () -> book.signTogether(1, 1, 0, 0, 0));
        checks.argument("21: no party, both the same", () -> book.signTogether(1, 1, 0, 1, 10));
        Signatory full = Books.full();
        checks.index("21: no person, 24 deeds", () -> full.signTogether(8, 0, 0, 1, 0));
        checks.index("21: no other one, 24 deeds", () -> full.signTogether(0, 8, 0, 1, 0));
        checks.argument("21: no kind, 24 deeds", () -> full.signTogether(0, 1, 4, 1, 0));
        checks.argument("21: no amount, 24 deeds", () -> full.signTogether(0, 1, 0, 0, 0));
        checks.argument("21: no party, 24 deeds", () -> full.signTogether(0, 1, 0, 1, 10));
        checks.unsupported("21: both the same, 24 deeds", () -> full.signTogether(7, 7, 0, 1, 0));
        checks.state("21: 24 deeds", () -> full.signTogether(0, 1, 0, 1, 0));
    }

    private static void ratifying() {
        Signatory book = Books.with(2);
        book.grant(0, 0, 's', 50, 0, 999);
        book.sign(0, 0, 1, 0);
        book.sign(1, 0, 1, 1);
        checks.index("22: no person, it does not wait", () -> book.ratify(0, 2));
        checks.index("22: no person, who cannot sign", () -> book.ratify(1, 2));
        checks.index("22: no deed, a person who cannot sign", () -> book.ratify(2, 1));
        checks.state("22: it does not wait, a person who cannot sign", () -> book.ratify(0, 1));
        checks.unsupported("22: a person who cannot sign", () -> book.ratify(1, 1));
    }
}
