import java.util.List;

/**
 * 'Ends the batch: all stays, or is put back': a change is made in a batch; put back, the ledger
 * must answer from then on as one without the change, kept, as one with the change and no batch.
 */
public final class PutBackTests extends Probe {
    private static final String RULE = "17: all stays, or is put back: ";

    public static void main(String[] args) {
        runSentences(PutBackTests.class);
    }

    private static HouseLedger ended(State state, Call change, boolean keep) {
        HouseLedger x = make(state);
        x.batch();
        change.of(x);
        x.endBatch(keep);
        return x;
    }

    private static HouseLedger changedBefore(State state, Call change) {
        HouseLedger x = make(state);
        change.of(x);
        x.batch();
        x.endBatch(true);
        return x;
    }

    private static void comesAndGoes(Check check, State state, String text, Call change) {
        List<Long> without = probe(changedBefore(state, x -> 0));
        List<Long> with = probe(changedBefore(state, change));
        check.no(state + ": " + text + " changes nothing", with.equals(without));
        check.yes(state + ": " + text + " stays", probe(ended(state, change, true)).equals(with));
        check.yes(state + ": " + text + " is put back", probe(ended(state, change, false)).equals(without));
    }

    @Sentence(RULE + "accounts")
    static void accounts(Check check) {
        for (int kind = 0; kind < 3; kind++) {
            int one = kind;
            comesAndGoes(check, State.NEW, "account(" + kind + ")", x -> x.account(one));
            comesAndGoes(check, State.USED, "account(" + kind + ")", x -> x.account(one));
        }
        comesAndGoes(check, State.NEW, "four accounts", x -> x.account(2) + x.account(0) + x.account(1) + x.account(1));
    }

    @Sentence(RULE + "entries and rows")
    static void entries(Check check) {
        comesAndGoes(check, State.NEW, "entry(0)", x -> x.entry(0));
        comesAndGoes(check, State.USED, "entry(30)", x -> x.entry(30));
        comesAndGoes(check, State.USED, "row(6, 0, 3)", x -> bit(x.row(UNEVEN, CASH, 3)));
        comesAndGoes(check, State.FULL, "row(8, 1, 3)", x -> bit(x.row(USED_ENTRIES, HOME, 3)));
    }

    @Sentence(RULE + "posted entries and their items")
    static void posted(Check check) {
        comesAndGoes(check, State.USED, "close(7)", x -> closed(x, SIX_ROWS));
        comesAndGoes(check, State.USED, "an earlier item", x -> charge(x, 30, HOME, 9));
        comesAndGoes(check, State.USED, "a later item", x -> charge(x, 3599, HOME, 9));
        comesAndGoes(check, State.FULL, "close(7)", x -> closed(x, SIX_ROWS));
    }

    @Sentence(RULE + "payments and what they gave")
    static void payments(Check check) {
        comesAndGoes(check, State.USED, "payment(1, 40, 50)", x -> x.payment(HOME, 40, 50));
        comesAndGoes(check, State.USED, "payment(1, 100, 50)", x -> x.payment(HOME, 100, 50));
        comesAndGoes(check, State.USED, "payment(4, 100, 50)", x -> x.payment(THIRD, 100, 50));
        comesAndGoes(check, State.USED, "two payments", x -> x.payment(HOME, 9, 50) + x.payment(HOME, 9, 50));
    }

    @Sentence(RULE + "found money")
    static void found(Check check) {
        comesAndGoes(check, State.USED, "payment(9, 5, 50)", x -> x.payment(9, 5, 50));
        comesAndGoes(check, State.USED, "two of them", x -> x.payment(9, 5, 50) + x.payment(CASH, 6, 50));
    }

    @Sentence(RULE + "steps and their days")
    static void steps(Check check) {
        comesAndGoes(check, State.USED, "dun(1, 96)", x -> x.dun(HOME, 96));
        comesAndGoes(check, State.USED, "dun(1, 0)", x -> x.dun(HOME, 0));
        comesAndGoes(check, State.USED, "dun(1, 0) and dun(1, 89)", x -> x.dun(HOME, 0) + x.dun(HOME, 89));
        comesAndGoes(check, State.FULL, "dun(1, 110)", x -> x.dun(HOME, 110));
    }

    @Sentence(RULE + "hardships")
    static void hardships(Check check) {
        comesAndGoes(check, State.USED, "hardship(1, 94, 96)", x -> bit(x.hardship(HOME, 94, 96)));
        comesAndGoes(check, State.USED, "hardship(1, 90, 96)", x -> bit(x.hardship(HOME, 90, 96)));
        comesAndGoes(check, State.USED, "hardship(1, 95, 95)", x -> bit(x.hardship(HOME, 95, 95)));
        comesAndGoes(check, State.USED, "hardship(2, 0, 3599)", x -> bit(x.hardship(OTHER, 0, 3599)));
    }

    @Sentence(RULE + "plans")
    static void plans(Check check) {
        comesAndGoes(check, State.USED, "instal(1, 7)", x -> x.instal(HOME, 7));
        comesAndGoes(check, State.USED, "nine plans", PutBackTests::ninePlans);
    }

    private static long ninePlans(HouseLedger x) {
        long last = NONE;
        for (int months = 11; months < 20; months++) {
            last = x.instal(HOME, months);
        }
        return last;
    }

    @Sentence(RULE + "moves")
    static void moves(Check check) {
        comesAndGoes(check, State.USED, "move(4, 5, 40)", x -> bit(x.move(THIRD, FOURTH, 40)));
        comesAndGoes(check, State.USED, "move(5, 4, 50)", x -> bit(x.move(FOURTH, THIRD, 50)));
        comesAndGoes(check, State.FULL, "move(4, 5, 40)", x -> bit(x.move(THIRD, FOURTH, 40)));
    }

    @Sentence(RULE + "closed months")
    static void months(Check check) {
        comesAndGoes(check, State.NEW, "closeMonth(0)", x -> bit(x.closeMonth(0)));
        comesAndGoes(check, State.USED, "closeMonth(1)", x -> bit(x.closeMonth(1)));
        comesAndGoes(check, State.FULL, "closeMonth(1)", x -> bit(x.closeMonth(1)));
    }

    @Sentence(RULE + "reversals")
    static void reversals(Check check) {
        comesAndGoes(check, State.USED, "reverse(1, 50)", x -> x.reverse(UNPAID, 50));
        comesAndGoes(check, State.USED, "reverse(1, 0)", x -> x.reverse(UNPAID, 0));
        comesAndGoes(check, State.ALL_CLOSED, "reverse(1, 50)", x -> x.reverse(UNPAID, 50));
    }

    @Sentence(RULE + "the rate")
    static void rate(Check check) {
        comesAndGoes(check, State.USED, "rate(8, 9)", x -> bit(x.rate(8, 9)));
        comesAndGoes(check, State.USED, "rate(7, 10)", x -> bit(x.rate(7, 10)));
        comesAndGoes(check, State.FULL, "rate(0, 1)", x -> bit(x.rate(0, 1)));
    }

    @Sentence(RULE + "all of it at once")
    static void all(Check check) {
        comesAndGoes(check, State.USED, "all of it", PutBackTests::changeAll);
        comesAndGoes(check, State.NEW, "all of it", x -> {
            x.account(1);
            x.account(1);
            x.account(0);
            x.account(2);
            return changeAll(x);
        });
    }

    private static long changeAll(HouseLedger x) {
        x.account(0);
        charge(x, 31, HOME, 500);
        charge(x, 45, OTHER, 11);
        x.payment(HOME, 520, 60);
        x.payment(OTHER, 5, 60);
        x.payment(9, 88, 60);
        x.dun(HOME, 100);
        x.dun(OTHER, 100);
        x.hardship(HOME, 0, 9);
        x.instal(HOME, 2);
        x.move(THIRD, FOURTH, 40);
        x.closeMonth(0);
        x.closeMonth(1);
        x.reverse(UNPAID, 70);
        x.rate(1, 3);
        return x.entry(90);
    }
}
