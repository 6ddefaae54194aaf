/** Books to begin a test with, and numbers to ask them wrongly. */
final class Books {
    private Books() {
    }

    static Signatory with(int persons) {
        Signatory book = new Signatory();
        for (int person = 0; person < persons; person++) {
            book.addPerson();
        }
        return book;
    }

    /** Made by 52 calls: 8 persons, 20 powers of hand s, each of the kind of its number modulo 4, and 24 deeds. */
    static Signatory full() {
        Signatory book = with(8);
        for (int power = 0; power < 20; power++) {
            book.grant(power % 8, power % 4, 's', 1000, 0, 999);
        }
        for (int deed = 0; deed < 24; deed++) {
            book.sign(deed % 8, deed % 4, 100 + deed, deed % 10);
        }
        return book;
    }

    /** Power 0 of person 0, from it power 1 of person 1, and so on; all of kind 1, hand s, and the same limit and days. */
    static Signatory chain(int powers, int limit, int first, int last) {
        Signatory book = with(Math.min(8, Math.max(2, powers)));
        int persons = Math.min(8, Math.max(2, powers));
        book.grant(0, 1, 's', limit, first, last);
        for (int power = 1; power < powers; power++) {
            book.delegate(power - 1, power % persons, limit, first, last);
        }
        return book;
    }

    /** Lets days pass up to this one, by as many calls as are needed. */
    static void passTo(Signatory book, int day) {
        while (book.today() < day) {
            book.pass(Math.min(99, day - book.today()));
        }
    }

    /** Numbers that are not between the least and the most one: just outside first, then far away. */
    static int[] outside(int least, int most) {
        return new int[] {least - 1, most + 1, least - 2, most + 2, Integer.MIN_VALUE, Integer.MAX_VALUE};
    }
}
