/** Promises 1 to 5: a new object, addPerson, leave, comeBack, actsFor. */
public final class PersonsTest {
    private static final int LOWEST = Integer.MIN_VALUE;
    private static final int GREATEST = Integer.MAX_VALUE;
    private static final Checks checks = new Checks("PersonsTest");

    public static void main(String[] args) {
        promise1NewObject();
        promise2AddPerson();
        promise3Leave();
        promise4ComeBack();
        promise5ActsFor();
        checks.end();
    }

    private static void promise1NewObject() {
        Signatory book = new Signatory();
        checks.due("1: today", 0, book::today);
        checks.due("1: bound", 0L, book::bound);
        checks.index("1: no person", () -> book.comeBack(0));
        checks.index("1: no power", () -> book.limit(0));
        checks.index("1: no deed", () -> book.status(0));
        checks.noElement("1: no deed to stand", book::standingShare);
        checks.due("1: no signers", 0, () -> book.signers(0, 1));
        checks.due("1: no pairs", 0, () -> book.pairs(0, 1));
        Signatory used = Books.with(3);
        used.pass(9);
        checks.due("1: another object is a book of its own", 0, () -> new Signatory().addPerson());
        checks.due("1: its day too", 0, () -> new Signatory().today());
    }

    private static void promise2AddPerson() {
        Signatory book = new Signatory();
        for (int person = 0; person < 8; person++) {
            checks.due("2: numbers go up", person, book::addPerson);
        }
        checks.state("2: a ninth person", book::addPerson);
        checks.state("2: a ninth person again", book::addPerson);
        checks.due("2: the eighth is there", true, () -> book.actsFor(7, 7));
        checks.index("2: the ninth is not", () -> book.actsFor(8, 0));
    }

    private static void promise3Leave() {
        Signatory book = Books.with(3);
        checks.due("3: present before", -1, () -> book.leave(0, 1));
        checks.due("3: in place of what was told", 1, () -> book.leave(0, 2));
        checks.due("3: only the last substitute acts", false, () -> book.actsFor(1, 0));
        checks.due("3: the last substitute", true, () -> book.actsFor(2, 0));
        checks.due("3: without a substitute", 2, () -> book.leave(0, -1));
        checks.due("3: nobody acts then", false, () -> book.actsFor(2, 0));
        checks.due("3: none before", -1, () -> book.leave(0, 1));
        checks.due("3: the substitute may be absent", -1, () -> book.leave(1, 0));
        for (int wrong : new int[] {-1, 3, LOWEST, GREATEST}) {
            checks.index("3: no person " + wrong, () -> book.leave(wrong, 1));
        }
        for (int wrong : new int[] {-2, 3, LOWEST, GREATEST}) {
            checks.index("3: no substitute " + wrong, () -> book.leave(2, wrong));
        }
        checks.index("3: no person goes ahead of both the same", () -> book.leave(-1, -1));
        checks.index("3: the same for 3", () -> book.leave(3, 3));
        checks.argument("3: both the same", () -> book.leave(2, 2));
        checks.state("3: the wrong calls changed nothing", () -> book.comeBack(2));
        checks.argument("3: both the same, absent", () -> book.leave(0, 0));
        checks.due("3: still the substitute", 1, () -> book.leave(0, 2));
    }

    private static void promise4ComeBack() {
        Signatory book = Books.with(3);
        checks.state("4: present at first", () -> book.comeBack(0));
        book.leave(0, 2);
        checks.due("4: the substitute before", 2, () -> book.comeBack(0));
        checks.due("4: the substitute acts no more", false, () -> book.actsFor(2, 0));
        checks.state("4: present again", () -> book.comeBack(0));
        checks.due("4: no substitute from before", -1, () -> book.leave(0, -1));
        checks.due("4: none", -1, () -> book.comeBack(0));
        book.leave(0, 1);
        checks.state("4: others are present", () -> book.comeBack(1));
        for (int wrong : new int[] {-1, 3, LOWEST, GREATEST}) {
            checks.index("4: no person " + wrong, () -> book.comeBack(wrong));
        }
        checks.due("4: the wrong calls changed nothing", true, () -> book.actsFor(1, 0));
    }

    private static void promise5ActsFor() {
        Signatory book = Books.with(4);
        checks.due("5: both the same", true, () -> book.actsFor(1, 1));
        checks.due("5: present", false, () -> book.actsFor(1, 0));
        book.leave(0, 1);
        book.leave(1, 2);
        checks.due("5: substitute", true, () -> book.actsFor(1, 0));
        checks.due("5: not the other way round", false, () -> book.actsFor(0, 1));
        checks.due("5: substitute of the substitute", true, () -> book.actsFor(2, 1));
        checks.due("5: not by two steps", false, () -> book.actsFor(2, 0));
        checks.due("5: an absent person for itself", true, () -> book.actsFor(0, 0));
        checks.due("5: another one", false, () -> book.actsFor(3, 0));
        for (int wrong : new int[] {-1, -2, 4, LOWEST, GREATEST}) {
            checks.index("5: no person " + wrong, () -> book.actsFor(wrong, 0));
            checks.index("5: no other " + wrong, () -> book.actsFor(0, wrong));
            checks.index("5: neither " + wrong, () -> book.actsFor(wrong, wrong));
        }
    }
}
