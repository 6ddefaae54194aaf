import java.util.Set;
import java.util.TreeSet;

/**
 * Long runs of calls, each answer compared with that of PlainSignatory; the numbers that choose the calls
 * come from a fixed rule, so that every run of this test makes the same calls.
 */
public final class RandomRunsTest {
    private static final int RUNS = 1500;
    private static final int CALLS = 512;
    /** More steps than calls, as some steps make no call, and some make more than one. */
    private static final int STEPS = 600;
    private static final int METHODS = 35;
    private static final Checks checks = new Checks("RandomRunsTest");

    private static long seed;
    /** How many calls the book has had: what it answers behind the 512th is free. */
    private static int calls;
    private static Signatory book;
    private static PlainSignatory plain;
    /** Every answer that came, so that it is noticed if the runs never get anywhere. */
    private static final Set<String> seen = new TreeSet<>();

    public static void main(String[] args) {
        for (int run = 0; run < RUNS; run++) {
            seed = run * 7919L + 17;
            book = new Signatory();
            plain = new PlainSignatory();
            calls = 0;
            int persons = 1 + below(8);
            for (int person = 0; person < persons; person++) {
                compare("addPerson()", book::addPerson, plain::addPerson);
            }
            for (int step = persons; step < STEPS; step++) {
                step(run % 3);
            }
        }
        for (String due : new String[] {"ratify throws.U", "ratify throws.IllegalS", "ratify 1", "lackDepth 2", "faultDepth 4", "pairs 28",
            "lack k", "lack d", "lack v", "lack l", "lack h", "status r", "status n", "status s", "status w",
            "standsByPapers true", "standsByPapers false", "delegate throws.U", "delegate throws.IllegalS"}) {
            checks.due("seen: " + due, true, () -> seen.stream().anyMatch(each -> each.startsWith(due)));
        }
        checks.end();
    }

    private static int below(int bound) {
        seed = seed * 6364136223846793005L + 1442695040888963407L;
        return (int) Long.remainderUnsigned(seed >>> 24, bound);
    }

    private static int oneOf(int... values) {
        return values[below(values.length)];
    }

    /** Mostly a number below the bound, sometimes one that is just or far outside. */
    private static int number(int bound) {
        return below(25) == 0 ? oneOf(-1, -2, bound, bound + 1, Integer.MIN_VALUE, Integer.MAX_VALUE) : below(bound);
    }

    private static int person() {
        return number(8);
    }

    private static int kind() {
        return below(30) == 0 ? number(4) : below(4) == 0 ? below(4) : 1;
    }

    private static int money() {
        return below(30) == 0
                ? oneOf(0, -1, 1, 9999, 10000, 99999, 100000, Integer.MAX_VALUE, Integer.MIN_VALUE)
                : (1 + below(12)) * 10 + below(2);
    }

    private static void step(int style) {
        if (style == 0 && below(3) != 0) {
            askAgain();
            return;
        }
        int method = below(METHODS);
        if (method < 9) {
            tellOfPersonsAndPowers(method);
        } else if (method < 18) {
            askOfPowers(method);
        } else {
            tellOrAskOfDeeds(method);
        }
    }

    private static void tellOfPersonsAndPowers(int method) {
        int person = person();
        int other = below(5) == 0 ? -1 : person();
        int power = below(2) == 0 ? number(6) : number(20);
        int limit = money();
        int first = below(4) == 0 ? number(1000) : below(60);
        int last = below(4) == 0 ? number(1000) : first + below(300);
        switch (method) {
            case 0 -> {
                if (below(10) == 0) {
                    compare("addPerson()", book::addPerson, plain::addPerson);
                }
            }
            case 1, 2 -> compare("leave(" + person + ", " + other + ")",
                    () -> book.leave(person, other), () -> plain.leave(person, other));
            case 3 -> compare("comeBack(" + person + ")", () -> book.comeBack(person), () -> plain.comeBack(person));
            case 4 -> {
                if (below(3) != 0) {
                    return;
                }
                int kind = kind();
                char hand = (char) oneOf('s', 'a', 'b', 'a', 'b', below(9) == 0 ? 'x' : 's');
                compare("grant(" + person + ", " + kind + ", " + hand + ", " + limit + ", " + first + ", " + last + ")",
                        () -> book.grant(person, kind, hand, limit, first, last),
                        () -> plain.grant(person, kind, hand, limit, first, last));
            }
            case 5, 6 -> {
                int[] part = plain.partOf(power, below(3) * 5, below(3) == 0 ? 1 : 0);
                if (part == null || below(4) == 0) {
                    delegate(power, person, limit, first, last);
                } else {
                    delegate(power, person, part[0], part[1], part[2]);
                }
            }
            case 7 -> compare("lower(" + power + ", " + limit + ")",
                    () -> book.lower(power, limit), () -> plain.lower(power, limit));
            default -> {
                if (below(5) == 0) {
                    compare("revoke(" + power + ")", () -> book.revoke(power), () -> plain.revoke(power));
                }
            }
        }
    }

    private static void delegate(int power, int person, int limit, int first, int last) {
        compare("delegate(" + power + ", " + person + ", " + limit + ", " + first + ", " + last + ")",
                () -> book.delegate(power, person, limit, first, last),
                () -> plain.delegate(power, person, limit, first, last));
    }

    private static void askOfPowers(int method) {
        int person = person();
        int other = person();
        int power = below(2) == 0 ? number(6) : number(20);
        int kind = kind();
        int sum = money();
        switch (method) {
            case 9 -> compare("actsFor(" + person + ", " + other + ")",
                    () -> book.actsFor(person, other), () -> plain.actsFor(person, other));
            case 10 -> {
                compare("source(" + power + ")", () -> book.source(power), () -> plain.source(power));
                compare("limit(" + power + ")", () -> book.limit(power), () -> plain.limit(power));
            }
            case 11 -> compare("fault(" + power + ", " + sum + ")",
                    () -> book.fault(power, sum), () -> plain.fault(power, sum));
            case 12 -> compare("faultDepth(" + power + ", " + sum + ")",
                    () -> book.faultDepth(power, sum), () -> plain.faultDepth(power, sum));
            case 13 -> compare("reach(" + power + ")", () -> book.reach(power), () -> plain.reach(power));
            case 14 -> compare("canSign(" + person + ", " + kind + ", " + sum + ")",
                    () -> book.canSign(person, kind, sum), () -> plain.canSign(person, kind, sum));
            case 15 -> compare("canSignTogether(" + person + ", " + other + ", " + kind + ", " + sum + ")",
                    () -> book.canSignTogether(person, other, kind, sum),
                    () -> plain.canSignTogether(person, other, kind, sum));
            case 16 -> compare("signers(" + kind + ", " + sum + ")",
                    () -> book.signers(kind, sum), () -> plain.signers(kind, sum));
            default -> {
                compare("pairs(" + kind + ", " + sum + ")", () -> book.pairs(kind, sum), () -> plain.pairs(kind, sum));
                compare("pairsByTrying(" + kind + ", " + sum + ")",
                        () -> book.pairsByTrying(kind, sum), () -> plain.pairs(kind, sum));
            }
        }
    }

    private static void tellOrAskOfDeeds(int method) {
        int person = person();
        int other = person();
        int kind = kind();
        int amount = money();
        int party = below(20) == 0 ? number(10) : below(2);
        int deed = number(24);
        int days = below(20) == 0 ? oneOf(0, -1, 99, 100, Integer.MAX_VALUE) : 1 + below(40);
        switch (method) {
            case 18 -> {
                if (below(4) == 0) {
                    compare("sign(" + person + ", " + kind + ", " + amount + ", " + party + ")",
                            () -> book.sign(person, kind, amount, party), () -> plain.sign(person, kind, amount, party));
                }
            }
            case 19 -> {
                if (below(4) == 0) {
                    compare("signTogether(" + person + ", " + other + ", " + kind + ", " + amount + ", " + party + ")",
                            () -> book.signTogether(person, other, kind, amount, party),
                            () -> plain.signTogether(person, other, kind, amount, party));
                }
            }
            case 20, 21 -> compare("ratify(" + deed + ", " + person + ")",
                    () -> book.ratify(deed, person), () -> plain.ratify(deed, person));
            case 22 -> {
                if (below(3) == 0) {
                    compare("annul(" + deed + ")", () -> book.annul(deed), () -> plain.annul(deed));
                }
            }
            case 23 -> compare("setWindow(" + days + ")", () -> book.setWindow(days), () -> plain.setWindow(days));
            case 24 -> {
                int fewer = days > 9 && below(3) != 0 ? 1 : days;
                compare("pass(" + fewer + ")", () -> book.pass(fewer), () -> plain.pass(fewer));
            }
            case 25 -> {
                compare("today()", book::today, plain::today);
                compare("bound()", book::bound, plain::bound);
                compare("standingShare()", book::standingShare, plain::standingShare);
            }
            default -> askOfDeed(deed);
        }
    }

    private static void askAgain() {
        askOfDeed(number(24));
    }

    private static void askOfDeed(int deed) {
        switch (below(8)) {
            case 0 -> compare("status(" + deed + ")", () -> book.status(deed), () -> plain.status(deed));
            case 1 -> compare("sum(" + deed + ")", () -> book.sum(deed), () -> plain.sum(deed));
            case 2 -> compare("sumByPapers(" + deed + ")", () -> book.sumByPapers(deed), () -> plain.sum(deed));
            case 3 -> compare("stands(" + deed + ")", () -> book.stands(deed), () -> plain.stands(deed));
            case 4 -> compare("standsByPapers(" + deed + ")", () -> book.standsByPapers(deed), () -> plain.stands(deed));
            case 5 -> compare("lack(" + deed + ")", () -> book.lack(deed), () -> plain.lack(deed));
            case 6 -> compare("lackPower(" + deed + ")", () -> book.lackPower(deed), () -> plain.lackPower(deed));
            default -> compare("lackDepth(" + deed + ")", () -> book.lackDepth(deed), () -> plain.lackDepth(deed));
        }
    }

    private static void compare(String what, Checks.Call call, Checks.Call plainCall) {
        if (calls >= CALLS) {
            return;
        }
        calls++;
        String want = Checks.answerOf(plainCall);
        checks.due(what, want, call);
        seen.add(what.substring(0, what.indexOf('(')) + " " + want);
    }
}
