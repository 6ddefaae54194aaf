/** The sentences of promises 1 to 5 that name a boundary case, each with a test of its own. */
public final class PersonsEdgesTest {
    private static final Checks checks = new Checks("PersonsEdgesTest");

    public static void main(String[] args) {
        newObject();
        newObjectIsItsOwn();
        numberOfThePerson();
        eightPersons();
        absentFromNowOn();
        substituteBeforeLeaving();
        noSuchPersonOrSubstitute();
        leaveInTheEmptyAndTheFullBook();
        bothTheSame();
        presentAgain();
        substituteBeforeComingBack();
        noSuchPersonToComeBack();
        thePersonIsPresent();
        actsForBothTheSame();
        actsForEveryPair();
        noSuchPersonForEither();
        checks.end();
    }

    private static void newObject() {
        checks.sentence("1: Creates a book without persons and powers, on the day 0.");
        Signatory book = new Signatory();
        checks.due("the day", 0, book::today);
        checks.index("no person 0", () -> book.actsFor(0, 0));
        checks.index("no power 0", () -> book.source(0));
        checks.index("no deed 0", () -> book.status(0));
        for (int kind = 0; kind < 4; kind++) {
            int each = kind;
            checks.due("nobody signs kind " + kind, 0, () -> book.signers(each, 1));
            checks.due("no pair signs kind " + kind, 0, () -> book.pairs(each, 1));
            checks.due("none by trying, kind " + kind, 0, () -> book.pairsByTrying(each, 1));
        }
        checks.due("nothing is bound", 0L, book::bound);
        checks.noElement("no share", book::standingShare);
        checks.due("the window", 30, () -> book.setWindow(30));
        checks.due("the first person", 0, book::addPerson);
        checks.due("the first power", 0, () -> book.grant(0, 0, 's', 1, 0, 0));
        checks.due("the first deed", 0, () -> book.sign(0, 0, 1, 0));
    }

    private static void newObjectIsItsOwn() {
        checks.sentence("1: Creates a book without persons and powers, on the day 0.");
        Signatory full = Books.full();
        full.pass(9);
        full.setWindow(9);
        Signatory book = new Signatory();
        checks.due("the day beside another book", 0, book::today);
        checks.index("no person beside another book", () -> book.actsFor(0, 0));
        checks.due("the window beside another book", 30, () -> book.setWindow(1));
        book.addPerson();
        checks.due("the other book is as it was", true, () -> full.actsFor(7, 7));
        checks.due("the other window is as it was", 9, () -> full.setWindow(9));
    }

    private static void numberOfThePerson() {
        checks.sentence("2: Returns the number of the person.");
        Signatory book = new Signatory();
        for (int person = 0; person < 8; person++) {
            int each = person;
            checks.index("person " + person + " is not there yet", () -> book.actsFor(each, each));
            checks.due("the number", person, book::addPerson);
            checks.due("person " + person + " is there", true, () -> book.actsFor(each, each));
        }
    }

    private static void eightPersons() {
        checks.sentence("2: Throws `IllegalStateException` if there are 8 persons");
        Signatory book = Books.with(7);
        checks.due("there are 7", 7, book::addPerson);
        checks.state("there are 8", book::addPerson);
        checks.state("refused again", book::addPerson);
        checks.due("the eighth is still there", true, () -> book.actsFor(7, 7));
        checks.index("a ninth is not", () -> book.actsFor(8, 8));
        book.leave(7, -1);
        checks.state("an absent person makes no room", book::addPerson);
        book.comeBack(7);
        checks.state("nor does one who is back", book::addPerson);
    }

    private static void absentFromNowOn() {
        checks.sentence("3: Tells that a person is absent from now on, in place of what was told before.");
        Signatory book = Books.with(8);
        book.leave(0, 1);
        checks.due("the substitute acts", true, () -> book.actsFor(1, 0));
        book.leave(0, 7);
        checks.due("the last one in place of it", true, () -> book.actsFor(7, 0));
        checks.due("the first one no more", false, () -> book.actsFor(1, 0));
        book.leave(0, -1);
        checks.due("none in place of it", false, () -> book.actsFor(7, 0));
        checks.due("absent still", -1, () -> book.comeBack(0));
    }

    private static void substituteBeforeLeaving() {
        checks.sentence("3: Returns the substitute before, or -1.");
        Signatory book = Books.with(8);
        checks.due("present", -1, () -> book.leave(7, 0));
        checks.due("the person 0", 0, () -> book.leave(7, 6));
        checks.due("the person 6", 6, () -> book.leave(7, -1));
        checks.due("absent without one", -1, () -> book.leave(7, 0));
        book.comeBack(7);
        checks.due("present again", -1, () -> book.leave(7, 3));
        checks.due("of another person", -1, () -> book.leave(0, 7));
        checks.due("the person 7", 7, () -> book.leave(0, 7));
        checks.due("the same again", 7, () -> book.leave(0, 7));
    }

    private static void noSuchPersonOrSubstitute() {
        checks.sentence("3: Throws `IndexOutOfBoundsException` if there is no such person,"
                + " or the substitute is neither -1 nor the number of one");
        Signatory book = Books.with(3);
        checks.due("the first person, the last substitute", -1, () -> book.leave(0, 2));
        checks.due("the last person, the first substitute", -1, () -> book.leave(2, 0));
        checks.due("no substitute", -1, () -> book.leave(1, -1));
        for (int wrong : Books.outside(0, 2)) {
            checks.index("person " + wrong, () -> book.leave(wrong, 1));
            checks.index("person " + wrong + " without a substitute", () -> book.leave(wrong, -1));
        }
        for (int wrong : Books.outside(-1, 2)) {
            checks.index("substitute " + wrong, () -> book.leave(0, wrong));
            checks.index("substitute " + wrong + " for somebody absent without one", () -> book.leave(1, wrong));
        }
        checks.due("refused calls left the substitute", 2, () -> book.comeBack(0));
        checks.due("refused calls left the absence", -1, () -> book.comeBack(1));
    }

    private static void leaveInTheEmptyAndTheFullBook() {
        checks.sentence("3: Throws `IndexOutOfBoundsException` if there is no such person,"
                + " or the substitute is neither -1 nor the number of one");
        Signatory empty = new Signatory();
        checks.index("the empty book", () -> empty.leave(0, -1));
        checks.index("the empty book, nobody", () -> empty.leave(-1, -1));
        Signatory full = Books.full();
        checks.due("the full book, its last person", -1, () -> full.leave(7, 0));
        checks.due("the full book, its last person as a substitute", -1, () -> full.leave(0, 7));
        checks.index("the full book, person 8", () -> full.leave(8, 0));
        checks.index("the full book, substitute 8", () -> full.leave(0, 8));
    }

    private static void bothTheSame() {
        checks.sentence("3: Throws `IllegalArgumentException` if both are the same");
        Signatory book = Books.with(8);
        for (int person = 0; person < 8; person++) {
            int each = person;
            checks.argument("person " + person, () -> book.leave(each, each));
            checks.state("person " + person + " is present still", () -> book.comeBack(each));
        }
        book.leave(3, 4);
        checks.argument("somebody absent", () -> book.leave(3, 3));
        checks.due("the substitute is as it was", 4, () -> book.comeBack(3));
    }

    private static void presentAgain() {
        checks.sentence("4: Tells that a person is present again.");
        Signatory book = Books.with(3);
        book.leave(0, 2);
        book.leave(1, 2);
        book.comeBack(0);
        checks.due("the substitute acts no more", false, () -> book.actsFor(2, 0));
        checks.due("but for another one", true, () -> book.actsFor(2, 1));
        checks.state("present", () -> book.comeBack(0));
    }

    private static void substituteBeforeComingBack() {
        checks.sentence("4: Returns the substitute before, or -1.");
        Signatory book = Books.with(8);
        book.leave(7, 0);
        checks.due("the person 0", 0, () -> book.comeBack(7));
        book.leave(0, 7);
        checks.due("the person 7", 7, () -> book.comeBack(0));
        book.leave(7, -1);
        checks.due("none", -1, () -> book.comeBack(7));
    }

    private static void noSuchPersonToComeBack() {
        checks.sentence("4: Throws `IndexOutOfBoundsException` if there is no such person");
        Signatory book = Books.with(3);
        book.leave(0, 1);
        book.leave(2, 1);
        for (int wrong : Books.outside(0, 2)) {
            checks.index("person " + wrong, () -> book.comeBack(wrong));
        }
        checks.due("the first person", 1, () -> book.comeBack(0));
        checks.due("the last person", 1, () -> book.comeBack(2));
        checks.index("the empty book", () -> new Signatory().comeBack(0));
        checks.index("the full book", () -> Books.full().comeBack(8));
    }

    private static void thePersonIsPresent() {
        checks.sentence("4: Throws `IllegalStateException` if the person is present");
        Signatory book = Books.with(8);
        checks.state("at first", () -> book.comeBack(0));
        checks.state("at first, the last person", () -> book.comeBack(7));
        book.leave(0, 7);
        checks.state("the substitute", () -> book.comeBack(7));
        book.comeBack(0);
        checks.state("back again", () -> book.comeBack(0));
        book.leave(0, -1);
        checks.due("absent without a substitute is not present", -1, () -> book.comeBack(0));
        checks.state("back again once more", () -> book.comeBack(0));
        checks.due("a refused call left the person present", -1, () -> book.leave(0, 1));
    }

    private static void actsForBothTheSame() {
        checks.sentence("5: Returns true if so; true also if both are the same.");
        Signatory book = Books.with(8);
        for (int person = 0; person < 8; person++) {
            int each = person;
            checks.due("present " + person, true, () -> book.actsFor(each, each));
            book.leave(person, (person + 1) % 8);
            checks.due("absent " + person, true, () -> book.actsFor(each, each));
            book.leave(person, -1);
            checks.due("absent without a substitute " + person, true, () -> book.actsFor(each, each));
        }
    }

    private static void actsForEveryPair() {
        checks.sentence("5: Tells whether a person acts by the powers of another one.");
        Signatory book = Books.with(8);
        book.leave(0, 7);
        book.leave(7, 6);
        book.leave(5, -1);
        for (int person = 0; person < 8; person++) {
            for (int other = 0; other < 8; other++) {
                int one = person;
                int two = other;
                boolean due = person == other || person == 7 && other == 0 || person == 6 && other == 7;
                checks.due(person + " for " + other, due, () -> book.actsFor(one, two));
            }
        }
    }

    private static void noSuchPersonForEither() {
        checks.sentence("5: Throws `IndexOutOfBoundsException` if there is no such person, for either");
        Signatory book = Books.with(3);
        checks.due("the first and the last", false, () -> book.actsFor(0, 2));
        checks.due("the last and the first", false, () -> book.actsFor(2, 0));
        book.leave(1, -1);
        for (int wrong : Books.outside(0, 2)) {
            checks.index("the person " + wrong, () -> book.actsFor(wrong, 1));
            checks.index("the other one " + wrong, () -> book.actsFor(1, wrong));
            checks.index("both " + wrong, () -> book.actsFor(wrong, wrong));
        }
        checks.index("the empty book", () -> new Signatory().actsFor(0, 0));
        Signatory full = Books.full();
        checks.index("the full book, the person", () -> full.actsFor(8, 7));
        checks.index("the full book, the other one", () -> full.actsFor(7, 8));
    }
}
