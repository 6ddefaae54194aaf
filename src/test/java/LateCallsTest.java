/**
 * Calls far behind the 512th and with the oddest arguments: what they answer is free, but only the program
 * itself may throw in them, and they must end.
 */
public final class LateCallsTest {
    private static final int CALLS = 60000;
    private static final int[] ODD = {-1, 0, 1, 2, 3, 7, 8, 9, 19, 20, 23, 24, 30, 99, 100, 999, 1000, 99999, 100000,
        Integer.MIN_VALUE, Integer.MAX_VALUE, Integer.MIN_VALUE + 1, Integer.MAX_VALUE - 1};
    private static final Checks checks = new Checks("LateCallsTest");
    private static long seed = 5;

    public static void main(String[] args) {
        Signatory full = fullBook();
        for (int call = 0; call < CALLS; call++) {
            checks.due("not by the machine", false, () -> machineThrows(full));
        }
        Signatory fresh = new Signatory();
        for (int call = 0; call < 5000; call++) {
            checks.due("not by the machine, on an empty book", false, () -> machineThrows(fresh));
        }
        checks.end();
    }

    private static Signatory fullBook() {
        Signatory book = new Signatory();
        for (int person = 0; person < 8; person++) {
            book.addPerson();
        }
        for (int power = 0; power < 20; power++) {
            book.grant(power % 8, power % 4, "sab".charAt(power % 3), 9000, 0, 999);
        }
        for (int paper = 0; paper < 2000; paper++) {
            book.leave(paper % 8, (paper + 3) % 8);
            book.setWindow(1 + paper % 99);
        }
        for (int deed = 0; deed < 24; deed++) {
            book.sign(deed % 8, deed % 4, 9999, deed % 3);
        }
        return book;
    }

    private static int odd() {
        seed = seed * 6364136223846793005L + 1442695040888963407L;
        return ODD[(int) Long.remainderUnsigned(seed >>> 24, ODD.length)];
    }

    private static boolean machineThrows(Signatory book) {
        int method = Math.floorMod(odd() * 31 + odd() * 17 + odd(), 34);
        return Checks.answerOf(() -> call(book, method)).startsWith("THE MACHINE");
    }

    private static Object call(Signatory book, int method) {
        switch (method) {
            case 0: return book.addPerson();
            case 1: return book.leave(odd(), odd());
            case 2: return book.comeBack(odd());
            case 3: return book.actsFor(odd(), odd());
            case 4: return book.grant(odd(), odd(), "sabx".charAt(odd() & 3), odd(), odd(), odd());
            case 5: return book.delegate(odd(), odd(), odd(), odd(), odd());
            case 6: return book.lower(odd(), odd());
            case 7: return book.revoke(odd());
            case 8: return book.source(odd());
            case 9: return book.limit(odd());
            case 10: return book.fault(odd(), odd());
            case 11: return book.faultDepth(odd(), odd());
            case 12: return book.reach(odd());
            case 13: return book.canSign(odd(), odd(), odd());
            case 14: return book.canSignTogether(odd(), odd(), odd(), odd());
            case 15: return book.signers(odd(), odd());
            case 16: return book.pairs(odd(), odd());
            case 17: return book.pairsByTrying(odd(), odd());
            case 18: return book.sign(odd(), odd(), odd(), odd());
            case 19: return book.signTogether(odd(), odd(), odd(), odd(), odd());
            case 20: return book.ratify(odd(), odd());
            case 21: return book.annul(odd());
            case 22: return book.status(odd());
            case 23: return book.sum(odd());
            case 24: return book.sumByPapers(odd());
            case 25: return book.stands(odd());
            case 26: return book.standsByPapers(odd());
            case 27: return book.lack(odd());
            case 28: return book.lackPower(odd());
            case 29: return book.lackDepth(odd());
            case 30: return book.setWindow(odd());
            case 31: return book.pass(odd());
            case 32: return book.today();
            default: return Float.isNaN(book.standingShare()) ? book.bound() : book.bound() + 1;
        }
    }
}
