/** Promises 20 to 32: sign, signTogether, ratify, annul, and what the book tells of deeds. */
public final class DeedsTest {
    private static final int[] NO_NUMBERS = {-1, -2, 99, Integer.MIN_VALUE, Integer.MAX_VALUE};
    private static final int[] NO_KINDS = {-1, 4, Integer.MIN_VALUE, Integer.MAX_VALUE};
    private static final int[] NO_PARTIES = {-1, 10, Integer.MIN_VALUE, Integer.MAX_VALUE};
    private static final int[] NO_AMOUNTS = {0, -1, 10000, Integer.MIN_VALUE, Integer.MAX_VALUE};
    private static final Checks checks = new Checks("DeedsTest");

    public static void main(String[] args) {
        promise20Sign();
        promise21SignTogether();
        promises20And21Room();
        promise22Ratify();
        promise23Annul();
        promises24And27Status();
        promises25And26Sum();
        promises25And26Window();
        promises25And26Annulled();
        promise28LaterPapers();
        promise28SmallestSum();
        promises26And28AllPapers();
        promise28Absence();
        promise28Ratified();
        promise28Sum();
        promises29To31OneSigner();
        promises29To31TwoSigners();
        promises29To31AreKept();
        promise32SetWindow();
        noSuchDeed();
        checks.end();
    }

    private static void standsOf(Signatory book, int deed, boolean want, String what) {
        checks.due("27: " + what, want, () -> book.stands(deed));
        checks.due("28: " + what, want, () -> book.standsByPapers(deed));
    }

    private static void sumsOf(Signatory book, int deed, int want, String what) {
        checks.due("25: " + what, want, () -> book.sum(deed));
        checks.due("26: " + what, want, () -> book.sumByPapers(deed));
    }

    private static void lackOf(Signatory book, int deed, char lack, int power, int depth, String what) {
        checks.due("29: " + what, lack, () -> book.lack(deed));
        checks.due("30: " + what, power, () -> book.lackPower(deed));
        checks.due("31: " + what, depth, () -> book.lackDepth(deed));
    }

    private static void promise20Sign() {
        Signatory book = Books.with(3);
        book.grant(0, 1, 's', 9999, 0, 999);
        checks.due("20: the first deed", 0, () -> book.sign(0, 1, 9999, 0));
        checks.due("20: it stands", 's', () -> book.status(0));
        checks.due("20: one that waits", 1, () -> book.sign(1, 1, 1, 9));
        checks.due("20: it waits", 'w', () -> book.status(1));
        book.leave(0, 1);
        book.sign(1, 1, 5, 1);
        checks.due("20: a substitute signs", 's', () -> book.status(2));
        book.sign(0, 1, 5, 2);
        checks.due("20: an absent person signs", 's', () -> book.status(3));
        for (int wrong : NO_NUMBERS) {
            checks.index("20: no person " + wrong, () -> book.sign(wrong, 9, 0, 99));
        }
        checks.index("20: person 3 is not there", () -> book.sign(3, 1, 1, 1));
        for (int wrong : NO_KINDS) {
            checks.argument("20: no kind " + wrong, () -> book.sign(0, wrong, 1, 1));
        }
        for (int wrong : NO_PARTIES) {
            checks.argument("20: no party " + wrong, () -> book.sign(0, 1, 1, wrong));
        }
        for (int wrong : NO_AMOUNTS) {
            checks.argument("20: no amount " + wrong, () -> book.sign(0, 1, wrong, 1));
        }
        checks.due("20: the wrong calls made none", 4, () -> book.sign(0, 1, 1, 1));
    }

    private static void promise21SignTogether() {
        Signatory book = Books.with(4);
        book.grant(0, 1, 'a', 100, 0, 999);
        book.grant(1, 1, 'b', 100, 0, 999);
        book.grant(2, 1, 's', 50, 0, 999);
        checks.due("21: a and b", 0, () -> book.signTogether(0, 1, 1, 100, 0));
        checks.due("21: it stands", 's', () -> book.status(0));
        checks.due("21: b and a, above", 1, () -> book.signTogether(1, 0, 1, 1, 0));
        checks.due("21: it waits", 'w', () -> book.status(1));
        checks.due("21: one of them alone", 2, () -> book.signTogether(3, 2, 1, 50, 1));
        checks.due("21: it stands too", 's', () -> book.status(2));
        checks.due("21: a and nothing", 3, () -> book.signTogether(0, 3, 1, 1, 2));
        checks.due("21: it waits too", 'w', () -> book.status(3));
        for (int wrong : NO_NUMBERS) {
            checks.index("21: no person " + wrong, () -> book.signTogether(wrong, 0, 9, 0, 99));
            checks.index("21: no other " + wrong, () -> book.signTogether(0, wrong, 9, 0, 99));
            checks.index("21: neither " + wrong, () -> book.signTogether(wrong, wrong, 1, 1, 1));
        }
        checks.index("21: person 4 is not there", () -> book.signTogether(0, 4, 1, 1, 1));
        for (int wrong : NO_KINDS) {
            checks.argument("21: no kind " + wrong, () -> book.signTogether(0, 0, wrong, 1, 1));
        }
        for (int wrong : NO_PARTIES) {
            checks.argument("21: no party " + wrong, () -> book.signTogether(0, 0, 1, 1, wrong));
        }
        for (int wrong : NO_AMOUNTS) {
            checks.argument("21: no amount " + wrong, () -> book.signTogether(0, 0, 1, wrong, 1));
        }
        checks.unsupported("21: both the same", () -> book.signTogether(0, 0, 1, 1, 1));
        checks.unsupported("21: both the same, alone", () -> book.signTogether(2, 2, 1, 1, 1));
        checks.due("21: the wrong calls made none", 4, () -> book.signTogether(0, 1, 1, 1, 3));
    }

    private static void promises20And21Room() {
        Signatory book = Books.with(2);
        for (int deed = 0; deed < 24; deed += 2) {
            int due = deed;
            checks.due("20: up to 24 deeds", due, () -> book.sign(0, 0, 9999, 0));
            checks.due("21: up to 24 deeds", due + 1, () -> book.signTogether(0, 1, 0, 9999, 0));
        }
        sumsOf(book, 23, 24 * 9999, "the greatest sum");
        standsOf(book, 23, false, "the greatest sum");
        checks.state("20: a deed too many", () -> book.sign(0, 0, 1, 0));
        checks.argument("20: argument ahead of room", () -> book.sign(0, 0, 0, 0));
        checks.index("20: person ahead of room", () -> book.sign(2, 0, 1, 0));
        checks.state("21: a deed too many", () -> book.signTogether(0, 1, 0, 1, 0));
        checks.unsupported("21: both the same ahead of room", () -> book.signTogether(1, 1, 0, 1, 0));
        book.annul(3);
        checks.state("20: an annulled deed makes no room", () -> book.sign(0, 0, 1, 0));
        checks.due("24: all are kept", 'w', () -> book.status(23));
    }

    private static void promise22Ratify() {
        Signatory book = Books.with(3);
        book.grant(0, 0, 'a', 999, 0, 999);
        book.grant(1, 0, 's', 70, 2, 999);
        book.sign(0, 0, 40, 1);
        book.sign(0, 0, 30, 1);
        book.sign(0, 0, 1, 1);
        book.sign(0, 1, 5, 1);
        checks.unsupported("22: hand a", () -> book.ratify(0, 0));
        checks.unsupported("22: ahead of its days", () -> book.ratify(0, 1));
        checks.due("22: nothing changed", 'w', () -> book.status(0));
        book.pass(2);
        checks.unsupported("22: another kind", () -> book.ratify(3, 1));
        checks.unsupported("22: nobody", () -> book.ratify(1, 2));
        checks.due("22: the sum and not the amount", 70, () -> book.ratify(1, 1));
        checks.due("22: ratified", 'r', () -> book.status(1));
        checks.unsupported("22: a sum above the limit", () -> book.ratify(2, 1));
        checks.state("22: ratified before", () -> book.ratify(1, 1));
        checks.state("22: not waiting goes ahead of cannot", () -> book.ratify(1, 2));
        book.annul(2);
        checks.state("22: annulled", () -> book.ratify(2, 1));
        book.sign(1, 0, 5, 8);
        checks.state("22: stands", () -> book.ratify(4, 1));
        book.leave(1, 2);
        checks.due("22: a substitute", 40, () -> book.ratify(0, 2));
        for (int wrong : NO_NUMBERS) {
            checks.index("22: no deed " + wrong, () -> book.ratify(wrong, 1));
            checks.index("22: no person " + wrong, () -> book.ratify(1, wrong));
        }
        checks.index("22: deed 5 is not there", () -> book.ratify(5, 1));
        checks.index("22: person 3 is not there", () -> book.ratify(3, 3));
        Signatory own = Books.with(1);
        own.sign(0, 0, 5, 0);
        own.grant(0, 0, 's', 5, 0, 0);
        checks.due("22: its own signer", 5, () -> own.ratify(0, 0));
    }

    private static void promise23Annul() {
        Signatory book = Books.with(2);
        book.grant(0, 0, 's', 70, 0, 999);
        for (int deed = 0; deed < 4; deed++) {
            book.sign(1, 0, 10, deed);
        }
        book.sign(0, 0, 10, 9);
        checks.due("23: three wait then", 3, () -> book.annul(1));
        checks.due("23: annulled", 'n', () -> book.status(1));
        checks.state("23: annulled before", () -> book.annul(1));
        checks.state("23: stands", () -> book.annul(4));
        book.ratify(2, 0);
        checks.state("23: ratified", () -> book.annul(2));
        checks.due("23: one waits then", 1, () -> book.annul(0));
        checks.due("23: none waits then", 0, () -> book.annul(3));
        for (int wrong : NO_NUMBERS) {
            checks.index("23: no deed " + wrong, () -> book.annul(wrong));
        }
        checks.index("23: deed 5 is not there", () -> book.annul(5));
    }

    private static void promises24And27Status() {
        Signatory book = Books.with(2);
        book.grant(0, 0, 's', 70, 0, 999);
        book.sign(0, 0, 10, 0);
        book.sign(1, 0, 10, 1);
        book.sign(1, 0, 10, 2);
        book.sign(1, 0, 10, 3);
        book.ratify(2, 0);
        book.annul(3);
        checks.due("24: stands", 's', () -> book.status(0));
        checks.due("24: waits", 'w', () -> book.status(1));
        checks.due("24: ratified", 'r', () -> book.status(2));
        checks.due("24: annulled", 'n', () -> book.status(3));
        standsOf(book, 0, true, "stands");
        standsOf(book, 1, false, "waits");
        standsOf(book, 2, true, "ratified");
        standsOf(book, 3, false, "annulled");
    }

    private static void promises25And26Sum() {
        Signatory book = Books.with(2);
        book.grant(0, 0, 's', 70, 0, 999);
        book.sign(0, 0, 10, 0);
        sumsOf(book, 0, 10, "the first");
        book.sign(1, 0, 20, 0);
        sumsOf(book, 1, 30, "of another signer");
        book.sign(0, 1, 40, 0);
        sumsOf(book, 2, 40, "another kind");
        book.sign(0, 0, 80, 1);
        sumsOf(book, 3, 80, "another party");
        book.signTogether(0, 1, 0, 1, 0);
        sumsOf(book, 4, 31, "one that waits is added");
        checks.due("24: with the sum, not the amount, in the limit", 's', () -> book.status(4));
        book.sign(0, 0, 40, 0);
        checks.due("24: the sum is above the limit", 'w', () -> book.status(5));
        sumsOf(book, 1, 30, "later deeds are not added");
    }

    private static void promises25And26Window() {
        Signatory book = Books.with(1);
        book.sign(0, 0, 1, 0);
        book.pass(1);
        book.sign(0, 0, 2, 0);
        book.pass(28);
        book.sign(0, 0, 4, 0);
        sumsOf(book, 2, 7, "29 days ago is in a window of 30");
        book.pass(1);
        book.sign(0, 0, 8, 0);
        sumsOf(book, 3, 14, "30 days ago is not");
        book.setWindow(1);
        book.sign(0, 0, 16, 0);
        sumsOf(book, 4, 24, "a window of 1: the same day alone");
        book.setWindow(99);
        book.sign(0, 0, 32, 0);
        sumsOf(book, 5, 63, "a window of 99");
        sumsOf(book, 4, 24, "the window of the signing counts");
        sumsOf(book, 3, 14, "the first window still");
        book.pass(69);
        book.sign(0, 0, 64, 0);
        sumsOf(book, 6, 126, "99 days ago is not in it");
    }

    private static void promises25And26Annulled() {
        Signatory book = Books.with(1);
        book.sign(0, 0, 1, 0);
        book.sign(0, 0, 2, 0);
        book.annul(0);
        book.sign(0, 0, 4, 0);
        sumsOf(book, 1, 3, "annulled behind it");
        sumsOf(book, 2, 6, "annulled ahead of it");
        book.annul(2);
        sumsOf(book, 2, 6, "an annulled deed keeps its sum");
        book.annul(1);
        book.sign(0, 0, 8, 0);
        sumsOf(book, 3, 8, "all annulled ahead of it");
        sumsOf(book, 1, 3, "all annulled behind it");
    }

    private static void promise28LaterPapers() {
        Signatory book = Books.with(3);
        book.grant(0, 0, 's', 100, 0, 5);
        book.delegate(0, 1, 100, 0, 5);
        book.sign(1, 0, 90, 0);
        book.sign(2, 0, 90, 1);
        book.lower(0, 50);
        standsOf(book, 0, true, "the limit was lowered later");
        book.sign(1, 0, 90, 2);
        standsOf(book, 2, false, "the limit was lowered ahead of it");
        book.sign(1, 0, 50, 3);
        book.revoke(0);
        standsOf(book, 0, true, "the source was revoked later");
        standsOf(book, 3, true, "lowered ahead, revoked later");
        book.sign(1, 0, 1, 4);
        standsOf(book, 4, false, "revoked ahead of it");
        book.pass(6);
        standsOf(book, 0, true, "the days of the power are over");
        book.grant(2, 0, 's', 99999, 0, 999);
        standsOf(book, 1, false, "the power was granted later");
        book.leave(2, 1);
        standsOf(book, 2, false, "the substitute was told later");
        standsOf(book, 0, true, "all that was told later");
    }

    private static void promise28SmallestSum() {
        Signatory book = Books.with(1);
        book.sign(0, 0, 1, 0);
        book.grant(0, 0, 's', 1, 0, 999);
        standsOf(book, 0, false, "the smallest sum, and the power was granted later");
    }

    private static void promises26And28AllPapers() {
        Signatory book = Books.with(1);
        book.grant(0, 0, 's', 99999, 0, 999);
        book.sign(0, 0, 7, 0);
        book.pass(10);
        for (int call = 0; call < 502; call++) {
            book.setWindow(call % 2 == 0 ? 1 : 11);
        }
        book.sign(0, 0, 5, 0);
        sumsOf(book, 1, 12, "the last of more than 500 windows");
        book.lower(0, 11);
        standsOf(book, 1, true, "with more than 500 papers");
    }

    private static void promise28Absence() {
        Signatory book = Books.with(3);
        book.grant(0, 0, 's', 100, 0, 999);
        book.leave(0, 1);
        book.sign(1, 0, 10, 0);
        book.sign(2, 0, 10, 1);
        book.leave(0, 2);
        standsOf(book, 0, true, "another substitute later");
        standsOf(book, 1, false, "the substitute later");
        book.sign(2, 0, 10, 2);
        book.sign(1, 0, 10, 3);
        book.comeBack(0);
        standsOf(book, 2, true, "present later");
        standsOf(book, 3, false, "substitute before");
        book.sign(2, 0, 10, 4);
        standsOf(book, 4, false, "present again");
        book.leave(0, -1);
        book.sign(2, 0, 10, 5);
        standsOf(book, 5, false, "absent without a substitute");
        book.signTogether(1, 2, 0, 10, 6);
        standsOf(book, 6, false, "two signers");
        book.sign(0, 0, 10, 7);
        standsOf(book, 7, true, "an absent person");
    }

    private static void promise28Ratified() {
        Signatory book = Books.with(3);
        book.sign(0, 0, 60, 0);
        book.sign(0, 0, 10, 0);
        book.pass(40);
        book.grant(1, 0, 's', 70, 40, 40);
        standsOf(book, 1, false, "could be ratified, but is not");
        book.leave(1, 2);
        checks.due("22: by the substitute", 70, () -> book.ratify(1, 2));
        standsOf(book, 1, true, "ratified");
        book.comeBack(1);
        standsOf(book, 1, true, "no substitute later");
        book.lower(0, 1);
        standsOf(book, 1, true, "lowered later");
        book.revoke(0);
        book.pass(1);
        standsOf(book, 1, true, "revoked and over later");
        standsOf(book, 0, false, "the one that was not ratified");
        checks.due("29: its lack is kept", 'k', () -> book.lack(1));
    }

    private static void promise28Sum() {
        Signatory book = Books.with(2);
        book.grant(0, 0, 's', 50, 0, 999);
        book.sign(1, 0, 30, 0);
        book.sign(0, 0, 30, 0);
        book.annul(0);
        standsOf(book, 1, false, "the sum is that of the signing");
        book.sign(0, 0, 20, 0);
        standsOf(book, 2, true, "a deed was annulled ahead of it");
        book.setWindow(1);
        book.pass(1);
        book.sign(0, 0, 50, 0);
        standsOf(book, 3, true, "a window of one day");
        book.setWindow(99);
        standsOf(book, 3, true, "another window later");
        book.sign(0, 0, 1, 0);
        standsOf(book, 4, false, "a window of 99 days");
        checks.due("29: the sum was too great", 'l', () -> book.lack(4));
    }

    private static void promises29To31OneSigner() {
        Signatory book = Books.with(4);
        book.grant(1, 2, 's', 100, 0, 999);
        book.sign(0, 2, 200, 0);
        checks.due("29: no power", 'k', () -> book.lack(0));
        checks.noElement("30: no power", () -> book.lackPower(0));
        checks.noElement("31: no power", () -> book.lackDepth(0));
        book.grant(0, 1, 's', 100, 0, 999);
        book.sign(0, 2, 200, 1);
        checks.due("29: a power of another kind", 'k', () -> book.lack(1));
        book.grant(0, 2, 's', 999, 1, 999);
        book.sign(0, 2, 200, 2);
        lackOf(book, 2, 'd', 2, 0, "a day");
        book.grant(0, 2, 's', 100, 0, 999);
        book.revoke(3);
        book.sign(0, 2, 200, 3);
        lackOf(book, 3, 'v', 3, 0, "revoked comes behind a day");
        book.leave(1, 0);
        book.sign(0, 2, 200, 4);
        lackOf(book, 4, 'l', 0, 0, "a limit comes behind, of a power that the signer acts by as a substitute");
        book.grant(3, 2, 'b', 999, 0, 999);
        book.delegate(4, 0, 999, 0, 999);
        book.sign(0, 2, 200, 5);
        lackOf(book, 5, 'h', 5, 0, "hands come last");
        book.grant(0, 2, 'a', 999, 0, 999);
        book.sign(0, 2, 200, 6);
        lackOf(book, 6, 'h', 5, 0, "the lowest number");
        book.lower(4, 100);
        book.sign(0, 2, 200, 7);
        lackOf(book, 7, 'h', 6, 0, "the other one");
        book.revoke(6);
        book.sign(0, 2, 200, 8);
        lackOf(book, 8, 'l', 0, 0, "the lowest number with a limit");
        book.comeBack(1);
        book.sign(0, 2, 200, 9);
        lackOf(book, 9, 'l', 5, 1, "the fault of the source");
        book.sign(1, 2, 100, 5);
        checks.due("29: the sum and not the amount", 'l', () -> book.lack(10));
        book.grant(1, 3, 's', 100, 0, 999);
        book.sign(1, 3, 100, 8);
        checks.noElement("29: it stood", () -> book.lack(11));
        checks.noElement("30: it stood", () -> book.lackPower(11));
        checks.noElement("31: it stood", () -> book.lackDepth(11));
    }

    private static void promises29To31TwoSigners() {
        Signatory book = Books.with(4);
        book.signTogether(0, 1, 0, 100, 0);
        checks.due("29: no power of both", 'k', () -> book.lack(0));
        book.grant(1, 0, 's', 10, 0, 999);
        book.signTogether(0, 1, 0, 100, 1);
        lackOf(book, 1, 'l', 0, 0, "a power of the second signer");
        book.signTogether(1, 0, 0, 100, 2);
        lackOf(book, 2, 'l', 0, 0, "a power of the first signer");
        book.grant(0, 0, 'a', 500, 0, 999);
        book.grant(1, 0, 'a', 500, 0, 999);
        book.signTogether(1, 0, 0, 100, 3);
        lackOf(book, 3, 'h', 1, 0, "the same hand twice");
        book.grant(2, 0, 'b', 500, 0, 999);
        book.leave(2, 3);
        book.signTogether(0, 3, 0, 501, 4);
        lackOf(book, 4, 'l', 1, 0, "hands would do, but the limit");
        book.leave(1, -1);
        book.sign(3, 1, 5, 5);
        checks.due("29: one signer, though somebody is absent without a substitute", 'k', () -> book.lack(5));
        book.sign(0, 0, 9999, 6);
        lackOf(book, 6, 'l', 1, 0, "one signer alone, not the absent one without a substitute");
        book.delegate(1, 3, 400, 0, 999);
        book.delegate(4, 2, 300, 0, 999);
        book.revoke(1);
        book.signTogether(2, 3, 0, 350, 7);
        lackOf(book, 7, 'h', 3, 0, "a power that both act by");
        book.revoke(3);
        book.signTogether(2, 3, 0, 350, 8);
        lackOf(book, 8, 'v', 3, 0, "its own, the lowest number");
        book.comeBack(2);
        book.sign(3, 0, 350, 9);
        lackOf(book, 9, 'v', 4, 1, "of the source");
        book.leave(3, 2);
        book.leave(2, 0);
        book.sign(2, 1, 5, 9);
        checks.due("29: another kind", 'k', () -> book.lack(10));
        Signatory deep = Books.with(3);
        deep.grant(0, 0, 's', 100, 0, 999);
        deep.delegate(0, 1, 90, 0, 999);
        deep.delegate(1, 2, 80, 0, 999);
        deep.lower(0, 10);
        deep.sign(2, 0, 11, 0);
        lackOf(deep, 0, 'l', 2, 2, "two steps");
        deep.grant(2, 1, 's', 100, 0, 999);
        deep.delegate(3, 1, 90, 0, 999);
        deep.delegate(4, 0, 80, 0, 999);
        deep.sign(0, 1, 85, 1);
        lackOf(deep, 1, 'l', 5, 0, "its own, though it has sources");
        deep.sign(0, 1, 95, 2);
        lackOf(deep, 2, 'l', 5, 1, "one of two steps");
        deep.leave(2, 0);
        deep.grant(1, 2, 's', 5, 0, 999);
        deep.leave(1, 0);
        deep.signTogether(2, 0, 2, 6, 3);
        lackOf(deep, 3, 'l', 6, 0, "the second signer acts as a substitute");
    }

    private static void promises29To31AreKept() {
        Signatory book = Books.with(3);
        book.grant(0, 0, 's', 100, 0, 999);
        book.delegate(0, 1, 90, 0, 999);
        book.lower(0, 10);
        book.sign(1, 0, 11, 0);
        book.revoke(1);
        book.pass(1);
        book.grant(1, 0, 'a', 500, 0, 999);
        lackOf(book, 0, 'l', 1, 1, "as it was when it was signed");
        book.annul(0);
        lackOf(book, 0, 'l', 1, 1, "annulled");
        book.sign(1, 0, 20, 1);
        book.grant(2, 0, 's', 500, 0, 999);
        book.ratify(1, 2);
        lackOf(book, 1, 'h', 2, 0, "ratified");
        book.sign(2, 0, 500, 2);
        book.revoke(3);
        checks.noElement("29: it stood when it was signed", () -> book.lack(2));
    }

    private static void promise32SetWindow() {
        Signatory book = new Signatory();
        checks.due("32: 30 at first", 30, () -> book.setWindow(1));
        checks.due("32: the window before", 1, () -> book.setWindow(99));
        for (int wrong : new int[] {0, -1, 100, Integer.MIN_VALUE, Integer.MAX_VALUE}) {
            checks.argument("32: no number of days " + wrong, () -> book.setWindow(wrong));
        }
        checks.due("32: nothing changed", 99, () -> book.setWindow(99));
        checks.due("32: the same again", 99, () -> book.setWindow(30));
    }

    private static void noSuchDeed() {
        Signatory book = Books.with(1);
        book.sign(0, 0, 1, 0);
        for (int wrong : new int[] {-1, 1, 24, Integer.MIN_VALUE, Integer.MAX_VALUE}) {
            checks.index("24: no deed " + wrong, () -> book.status(wrong));
            checks.index("25: no deed " + wrong, () -> book.sum(wrong));
            checks.index("26: no deed " + wrong, () -> book.sumByPapers(wrong));
            checks.index("27: no deed " + wrong, () -> book.stands(wrong));
            checks.index("28: no deed " + wrong, () -> book.standsByPapers(wrong));
            checks.index("29: no deed " + wrong, () -> book.lack(wrong));
            checks.index("30: no deed " + wrong, () -> book.lackPower(wrong));
            checks.index("31: no deed " + wrong, () -> book.lackDepth(wrong));
        }
    }
}
