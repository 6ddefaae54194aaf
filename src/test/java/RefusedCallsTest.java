import java.util.ArrayList;
import java.util.List;
import java.util.function.Supplier;

/**
 * A method that throws an exception changes nothing: each refused call is made on one of two books that are
 * alike, and from then on both must give the same answers, also to calls that tell something.
 */
public final class RefusedCallsTest {
    private interface Use {
        Object on(Signatory book);
    }

    private static final Checks checks = new Checks("RefusedCallsTest");

    public static void main(String[] args) {
        checks.sentence("Terms: A method that throws an exception changes nothing.");
        inTheEmptyBook();
        inAUsedBookOfPersons();
        inAUsedBookOfPowers();
        inAUsedBookOfDeeds();
        inTheFullBook();
        checks.end();
    }

    private static void refused(Supplier<Signatory> state, String what, String exception, Use call) {
        Signatory untouched = state.get();
        Signatory asked = state.get();
        checks.due(what, "throws." + exception, () -> call.on(asked));
        checks.due(what + ", again", "throws." + exception, () -> call.on(asked));
        List<String> want = answersOf(untouched);
        List<String> got = answersOf(asked);
        for (int line = 0; line < want.size(); line++) {
            String answer = got.get(line);
            checks.due("refused: " + what, want.get(line), () -> answer);
        }
    }

    private static void index(Supplier<Signatory> state, String what, Use call) {
        refused(state, what, "IndexOutOfBoundsException", call);
    }

    private static void argument(Supplier<Signatory> state, String what, Use call) {
        refused(state, what, "IllegalArgumentException", call);
    }

    private static void state(Supplier<Signatory> state, String what, Use call) {
        refused(state, what, "IllegalStateException", call);
    }

    private static void unsupported(Supplier<Signatory> state, String what, Use call) {
        refused(state, what, "UnsupportedOperationException", call);
    }

    private static void noElement(Supplier<Signatory> state, String what, Use call) {
        refused(state, what, "NoSuchElementException", call);
    }

    /** Fewer than 400 calls, so that a book keeps within its 512: first what only asks, then what tells something. */
    private static List<String> answersOf(Signatory book) {
        List<String> answers = new ArrayList<>();
        askOfDaysAndKinds(book, answers);
        askOfPowers(book, answers);
        askOfDeeds(book, answers);
        tellOfPersons(book, answers);
        tellOfDeeds(book, answers);
        return answers;
    }

    private static void add(List<String> answers, String what, Checks.Call call) {
        answers.add(what + " " + Checks.answerOf(call));
    }

    private static void askOfDaysAndKinds(Signatory book, List<String> answers) {
        add(answers, "today", book::today);
        add(answers, "bound", book::bound);
        add(answers, "standingShare", book::standingShare);
        for (int kind = 0; kind < 4; kind++) {
            int each = kind;
            add(answers, "signers " + kind, () -> book.signers(each, 1));
            add(answers, "pairs " + kind, () -> book.pairs(each, 1));
        }
    }

    private static void askOfPowers(Signatory book, List<String> answers) {
        for (int power = 0; power <= 20; power++) {
            int each = power;
            add(answers, "source " + power, () -> book.source(each));
            add(answers, "limit " + power, () -> book.limit(each));
            add(answers, "fault " + power, () -> book.fault(each, 1));
            add(answers, "reach " + power, () -> book.reach(each));
        }
    }

    private static void askOfDeeds(Signatory book, List<String> answers) {
        for (int deed = 0; deed <= 24; deed++) {
            int each = deed;
            add(answers, "status " + deed, () -> book.status(each));
            add(answers, "sum " + deed, () -> book.sum(each));
            add(answers, "sumByPapers " + deed, () -> book.sumByPapers(each));
            add(answers, "standsByPapers " + deed, () -> book.standsByPapers(each));
            add(answers, "lack " + deed, () -> book.lack(each));
            add(answers, "lackPower " + deed, () -> book.lackPower(each));
        }
    }

    private static void tellOfPersons(Signatory book, List<String> answers) {
        for (int person = 0; person <= 8; person++) {
            int each = person;
            add(answers, "comeBack " + person, () -> book.comeBack(each));
        }
        add(answers, "addPerson", book::addPerson);
        add(answers, "grant", () -> book.grant(0, 3, 's', 7, 0, 999));
        add(answers, "delegate", () -> book.delegate(0, 1, 1, 5, 5));
    }

    private static void tellOfDeeds(Signatory book, List<String> answers) {
        add(answers, "sign", () -> book.sign(0, 3, 7, 3));
        add(answers, "sum", () -> book.sum(5));
        add(answers, "sumByPapers", () -> book.sumByPapers(5));
        add(answers, "standsByPapers", () -> book.standsByPapers(5));
        add(answers, "setWindow", () -> book.setWindow(9));
        for (int deed = 0; deed <= 24; deed++) {
            int each = deed;
            add(answers, "annul " + deed, () -> book.annul(each));
        }
        add(answers, "pass", () -> book.pass(1));
    }

    private static void inTheEmptyBook() {
        Supplier<Signatory> empty = Signatory::new;
        index(empty, "leave", book -> book.leave(0, -1));
        index(empty, "comeBack", book -> book.comeBack(0));
        index(empty, "actsFor", book -> book.actsFor(0, 0));
        index(empty, "grant", book -> book.grant(0, 0, 's', 1, 0, 0));
        index(empty, "delegate", book -> book.delegate(0, 0, 1, 0, 0));
        index(empty, "lower", book -> book.lower(0, 1));
        index(empty, "revoke", book -> book.revoke(0));
        index(empty, "source", book -> book.source(0));
        index(empty, "limit", book -> book.limit(0));
        index(empty, "fault", book -> book.fault(0, 1));
        index(empty, "faultDepth", book -> book.faultDepth(0, 1));
        index(empty, "reach", book -> book.reach(0));
        index(empty, "canSign", book -> book.canSign(0, 0, 1));
        index(empty, "canSignTogether", book -> book.canSignTogether(0, 1, 0, 1));
        argument(empty, "signers", book -> book.signers(4, 1));
        argument(empty, "pairs", book -> book.pairs(0, 0));
        argument(empty, "pairsByTrying", book -> book.pairsByTrying(0, 100000));
        index(empty, "sign", book -> book.sign(0, 0, 1, 0));
        index(empty, "signTogether", book -> book.signTogether(0, 1, 0, 1, 0));
        index(empty, "ratify", book -> book.ratify(0, 0));
        index(empty, "annul", book -> book.annul(0));
        index(empty, "status", book -> book.status(0));
        index(empty, "sum", book -> book.sum(0));
        index(empty, "sumByPapers", book -> book.sumByPapers(0));
        index(empty, "stands", book -> book.stands(0));
        index(empty, "standsByPapers", book -> book.standsByPapers(0));
        index(empty, "lack", book -> book.lack(0));
        index(empty, "lackPower", book -> book.lackPower(0));
        index(empty, "lackDepth", book -> book.lackDepth(0));
        argument(empty, "setWindow", book -> book.setWindow(0));
        argument(empty, "pass", book -> book.pass(100));
        noElement(empty, "standingShare", book -> book.standingShare());
    }

    /** Persons 0 to 3, of whom 2 is absent with the substitute 3, 1 without one; powers 0 to 3; deeds 0 to 4 on day 5. */
    private static Signatory used() {
        Signatory book = Books.with(4);
        book.grant(0, 3, 's', 90, 0, 999);
        book.delegate(0, 1, 80, 5, 9);
        book.grant(2, 3, 'a', 70, 0, 999);
        book.grant(3, 2, 's', 60, 0, 999);
        book.pass(5);
        book.leave(1, -1);
        book.leave(2, 3);
        book.revoke(3);
        book.setWindow(40);
        book.sign(0, 3, 10, 3);
        book.sign(2, 3, 20, 3);
        book.sign(3, 3, 30, 3);
        book.sign(3, 2, 40, 3);
        book.signTogether(2, 3, 1, 50, 3);
        book.ratify(1, 0);
        book.annul(2);
        return book;
    }

    private static void inAUsedBookOfPersons() {
        Supplier<Signatory> used = RefusedCallsTest::used;
        index(used, "leave, no person", book -> book.leave(4, 0));
        index(used, "leave, no substitute", book -> book.leave(0, 4));
        index(used, "leave, no substitute for one who is absent", book -> book.leave(2, -2));
        argument(used, "leave, both the same", book -> book.leave(0, 0));
        argument(used, "leave, both the same, absent", book -> book.leave(2, 2));
        index(used, "comeBack, no person", book -> book.comeBack(4));
        state(used, "comeBack, present", book -> book.comeBack(0));
        index(used, "actsFor, no person", book -> book.actsFor(4, 0));
        index(used, "actsFor, no other one", book -> book.actsFor(0, 4));
        index(used, "canSign, no person", book -> book.canSign(4, 3, 1));
        argument(used, "canSign, no kind", book -> book.canSign(0, 4, 1));
        argument(used, "canSign, no sum", book -> book.canSign(0, 3, 0));
        index(used, "canSignTogether, no person", book -> book.canSignTogether(0, 4, 3, 1));
        argument(used, "canSignTogether, no kind", book -> book.canSignTogether(0, 1, -1, 1));
        unsupported(used, "canSignTogether, both the same", book -> book.canSignTogether(1, 1, 3, 1));
        argument(used, "signers, no sum", book -> book.signers(3, 0));
        argument(used, "pairs, no sum", book -> book.pairs(3, 100000));
        argument(used, "pairsByTrying, no kind", book -> book.pairsByTrying(-1, 1));
    }

    private static void inAUsedBookOfPowers() {
        Supplier<Signatory> used = RefusedCallsTest::used;
        index(used, "grant, no person", book -> book.grant(4, 3, 's', 9, 0, 9));
        argument(used, "grant, no kind", book -> book.grant(0, 4, 's', 9, 0, 9));
        argument(used, "grant, no hand", book -> book.grant(0, 3, 'c', 9, 0, 9));
        argument(used, "grant, no limit", book -> book.grant(0, 3, 's', 0, 0, 9));
        argument(used, "grant, no days", book -> book.grant(0, 3, 's', 9, 9, 0));
        index(used, "delegate, no power", book -> book.delegate(4, 3, 9, 5, 9));
        index(used, "delegate, no person", book -> book.delegate(0, 4, 9, 5, 9));
        argument(used, "delegate, no limit", book -> book.delegate(0, 3, 0, 5, 9));
        argument(used, "delegate, no days", book -> book.delegate(0, 3, 9, 9, 5));
        unsupported(used, "delegate, the holder", book -> book.delegate(0, 0, 9, 5, 9));
        unsupported(used, "delegate, limit above", book -> book.delegate(1, 0, 81, 5, 9));
        unsupported(used, "delegate, days", book -> book.delegate(1, 0, 80, 4, 9));
        state(used, "delegate, revoked", book -> book.delegate(3, 0, 9, 5, 9));
        index(used, "lower, no power", book -> book.lower(4, 1));
        argument(used, "lower, above", book -> book.lower(0, 91));
        argument(used, "lower, below", book -> book.lower(0, 0));
        index(used, "revoke, no power", book -> book.revoke(4));
        state(used, "revoke, revoked", book -> book.revoke(3));
        index(used, "source, no power", book -> book.source(4));
        index(used, "limit, no power", book -> book.limit(4));
        index(used, "fault, no power", book -> book.fault(4, 1));
        argument(used, "fault, no sum", book -> book.fault(0, 0));
        index(used, "faultDepth, no power", book -> book.faultDepth(4, 1));
        argument(used, "faultDepth, no sum", book -> book.faultDepth(0, 100000));
        noElement(used, "faultDepth, no fault", book -> book.faultDepth(0, 90));
        index(used, "reach, no power", book -> book.reach(4));
    }

    private static void inAUsedBookOfDeeds() {
        Supplier<Signatory> used = RefusedCallsTest::used;
        index(used, "sign, no person", book -> book.sign(4, 3, 9, 3));
        argument(used, "sign, no kind", book -> book.sign(0, 4, 9, 3));
        argument(used, "sign, no amount", book -> book.sign(0, 3, 10000, 3));
        argument(used, "sign, no party", book -> book.sign(0, 3, 9, 10));
        index(used, "signTogether, no person", book -> book.signTogether(0, 4, 3, 9, 3));
        argument(used, "signTogether, no amount", book -> book.signTogether(0, 1, 3, 0, 3));
        unsupported(used, "signTogether, both the same", book -> book.signTogether(0, 0, 3, 9, 3));
        index(used, "ratify, no deed", book -> book.ratify(5, 0));
        index(used, "ratify, no person", book -> book.ratify(3, 4));
        state(used, "ratify, it stands", book -> book.ratify(0, 0));
        state(used, "ratify, it was ratified", book -> book.ratify(1, 0));
        state(used, "ratify, it was annulled", book -> book.ratify(2, 0));
        unsupported(used, "ratify, who cannot sign", book -> book.ratify(3, 0));
        index(used, "annul, no deed", book -> book.annul(5));
        state(used, "annul, it stands", book -> book.annul(0));
        state(used, "annul, it was ratified", book -> book.annul(1));
        state(used, "annul, it was annulled", book -> book.annul(2));
        index(used, "status, no deed", book -> book.status(5));
        index(used, "sum, no deed", book -> book.sum(5));
        index(used, "sumByPapers, no deed", book -> book.sumByPapers(5));
        index(used, "stands, no deed", book -> book.stands(5));
        index(used, "standsByPapers, no deed", book -> book.standsByPapers(5));
        noElement(used, "lack, it stood", book -> book.lack(0));
        noElement(used, "lackPower, it stood", book -> book.lackPower(0));
        noElement(used, "lackPower, no power", book -> book.lackPower(4));
        noElement(used, "lackDepth, no power", book -> book.lackDepth(4));
        argument(used, "setWindow, too small", book -> book.setWindow(0));
        argument(used, "setWindow, too great", book -> book.setWindow(100));
        argument(used, "pass, too few", book -> book.pass(0));
        argument(used, "pass, too many", book -> book.pass(100));
    }

    private static Signatory fullOnTheLastDay() {
        Signatory book = Books.full();
        for (int days = 0; days < 10; days++) {
            book.pass(99);
        }
        book.pass(9);
        return book;
    }

    private static void inTheFullBook() {
        Supplier<Signatory> full = RefusedCallsTest::fullOnTheLastDay;
        state(full, "addPerson", book -> book.addPerson());
        state(full, "grant", book -> book.grant(0, 0, 's', 1, 0, 0));
        state(full, "delegate", book -> book.delegate(0, 1, 1, 0, 0));
        state(full, "sign", book -> book.sign(0, 0, 1, 0));
        state(full, "signTogether", book -> book.signTogether(0, 1, 0, 1, 0));
        argument(full, "pass", book -> book.pass(1));
        index(full, "leave", book -> book.leave(8, 0));
        index(full, "leave to nobody", book -> book.leave(0, 8));
        index(full, "lower", book -> book.lower(20, 1));
        index(full, "revoke", book -> book.revoke(20));
        index(full, "ratify", book -> book.ratify(24, 0));
        state(full, "ratify what stands", book -> book.ratify(23, 0));
        index(full, "annul", book -> book.annul(24));
        noElement(full, "lack", book -> book.lack(23));
        noElement(full, "faultDepth", book -> book.faultDepth(19, 1000));
    }
}
