import java.util.ArrayList;
import java.util.List;

/**
 * 'A call that is refused, or throws, changes nothing, where nothing else is said': of two ledgers
 * with the same past one is asked for what it must refuse, and both must answer alike from then on.
 */
public final class RefusalTests extends Probe {
    private static final String RULE = "terms: A call that is refused, or throws, changes nothing: ";

    public static void main(String[] args) {
        runSentences(RefusalTests.class);
    }

    private static void refuses(Check check, State state, String text, long answer, Call call) {
        HouseLedger x = make(state);
        check.is(state + ": " + text, call.of(x), answer);
        check.yes(state + ": all is as it was before " + text, probe(x).equals(probe(make(state))));
    }

    private static void refuse(Check check, String text, long answer, Call call) {
        for (State state : State.values()) {
            refuses(check, state, text, answer, call);
        }
    }

    /** Refused by every ledger but a new one, which has neither these entries nor these accounts. */
    private static void refuseUsed(Check check, String text, long answer, Call call) {
        for (State state : State.values()) {
            if (state != State.NEW) {
                refuses(check, state, text, answer, call);
            }
        }
    }

    @Sentence(RULE + "(the ledgers here answer what they are to be asked for)")
    static void aLedgersDiffer(Check check) {
        List<List<Long>> probes = new ArrayList<>();
        for (State state : State.values()) {
            List<Long> probe = probe(make(state));
            check.no(state + " answers as another does", probes.contains(probe));
            probes.add(probe);
        }
        HouseLedger x = make(State.USED);
        check.is("the late one", closed(x, LATE), NONE);
        check.is("the uneven one", closed(x, UNEVEN), THROWN);
        check.is("the one of six rows", closed(x, SIX_ROWS), 6);
        check.is("the payment", x.opened(PAYMENT, 0), 10 * PAID);
        check.is("the unpaid one", x.item(HOME, 1), 100);
        check.is("the step", x.dun(HOME, 93), 1);
    }

    @Sentence(RULE + "account")
    static void account(Check check) {
        for (int kind : new int[] {-1, 3, Integer.MIN_VALUE, Integer.MAX_VALUE}) {
            refuse(check, "account(" + kind + ")", NONE, x -> x.account(kind));
        }
        refuses(check, State.FULL, "account(0)", NONE, x -> x.account(0));
    }

    @Sentence(RULE + "entry")
    static void entry(Check check) {
        for (long day : NO_DAYS) {
            refuse(check, "entry(" + day + ")", NONE, x -> x.entry(day));
        }
        refuseUsed(check, "late entry(29)", NONE, x -> x.entry(29));
        refuses(check, State.FULL, "entry(60)", NONE, x -> x.entry(60));
        refuses(check, State.ALL_CLOSED, "entry(3599)", NONE, x -> x.entry(3599));
    }

    @Sentence(RULE + "row")
    static void row(Check check) {
        for (int entry : NO_ENTRIES) {
            refuse(check, "row(" + entry + ", 1, 5)", 0, x -> bit(x.row(entry, HOME, 5)));
        }
        for (int account : NO_ACCOUNTS) {
            refuse(check, "row(6, " + account + ", 5)", 0, x -> bit(x.row(UNEVEN, account, 5)));
        }
        for (long cents : NO_CENTS) {
            refuse(check, "row(6, 1, " + cents + ")", 0, x -> bit(x.row(UNEVEN, HOME, cents)));
        }
        for (int entry : new int[] {UNPAID, PAID, PAYMENT, REVERSED, REVERSAL, SIX_ROWS}) {
            refuse(check, "row(" + entry + ", 1, 5)", 0, x -> bit(x.row(entry, HOME, 5)));
        }
    }

    @Sentence(RULE + "close")
    static void close(Check check) {
        for (int entry : NO_ENTRIES) {
            refuse(check, "close(" + entry + ")", NONE, x -> closed(x, entry));
        }
        for (int entry : new int[] {LATE, UNPAID, PAID, PAYMENT, REVERSED, REVERSAL}) {
            refuse(check, "close(" + entry + ")", NONE, x -> closed(x, entry));
        }
        refuses(check, State.USED, "close(6)", THROWN, x -> closed(x, UNEVEN));
        refuses(check, State.FULL, "close(6)", THROWN, x -> closed(x, UNEVEN));
        refuses(check, State.IN_BATCH, "late close(6)", NONE, x -> closed(x, UNEVEN));
        refuses(check, State.ALL_CLOSED, "late close(7)", NONE, x -> closed(x, SIX_ROWS));
    }

    @Sentence(RULE + "payment")
    static void payment(Check check) {
        for (long cents : NO_CENTS) {
            refuse(check, "payment(1, " + cents + ", 60)", NONE, x -> x.payment(HOME, cents, 60));
            refuse(check, "payment(9, " + cents + ", 60)", NONE, x -> x.payment(9, cents, 60));
        }
        for (long day : NO_DAYS) {
            refuse(check, "payment(1, 5, " + day + ")", NONE, x -> x.payment(HOME, 5, day));
            refuse(check, "payment(9, 5, " + day + ")", NONE, x -> x.payment(9, 5, day));
        }
        refuseUsed(check, "late payment(1, 5, 29)", NONE, x -> x.payment(HOME, 5, 29));
        refuseUsed(check, "late payment(9, 5, 29)", NONE, x -> x.payment(9, 5, 29));
        refuses(check, State.NEW, "payment(0, 5, 60) without cash", NONE, x -> x.payment(0, 5, 60));
        refuses(check, State.FULL, "payment(1, 5, 60)", NONE, x -> x.payment(HOME, 5, 60));
        refuses(check, State.FULL, "payment(9, 5, 60)", NONE, x -> x.payment(9, 5, 60));
    }

    @Sentence(RULE + "dun")
    static void dun(Check check) {
        for (int account : NO_ACCOUNTS) {
            refuse(check, "dun(" + account + ", 200)", NONE, x -> x.dun(account, 200));
        }
        for (long day : NO_DAYS) {
            refuse(check, "dun(1, " + day + ")", NONE, x -> x.dun(HOME, day));
        }
        refuse(check, "dun of cash", NONE, x -> x.dun(CASH, 200));
        refuse(check, "dun of income", NONE, x -> x.dun(INCOME, 200));
    }

    @Sentence(RULE + "hardship")
    static void hardship(Check check) {
        for (int account : NO_ACCOUNTS) {
            refuse(check, "hardship(" + account + ", 0, 3599)", 0, x -> bit(x.hardship(account, 0, 3599)));
        }
        refuse(check, "hardship of cash", 0, x -> bit(x.hardship(CASH, 0, 3599)));
        refuse(check, "hardship of income", 0, x -> bit(x.hardship(INCOME, 0, 3599)));
        refuse(check, "hardship(1, 1, 0)", 0, x -> bit(x.hardship(HOME, 1, 0)));
        refuse(check, "hardship(1, MAX, MIN)", 0, x -> bit(x.hardship(HOME, Long.MAX_VALUE, Long.MIN_VALUE)));
    }

    @Sentence(RULE + "instal")
    static void instal(Check check) {
        for (int account : NO_ACCOUNTS) {
            refuse(check, "instal(" + account + ", 2)", NONE, x -> x.instal(account, 2));
        }
        for (int months : new int[] {0, -1, 25, Integer.MIN_VALUE, Integer.MAX_VALUE}) {
            refuse(check, "instal(1, " + months + ")", NONE, x -> x.instal(HOME, months));
        }
        refuse(check, "instal(2, 2), nothing is due", NONE, x -> x.instal(OTHER, 2));
        refuse(check, "instal of income", NONE, x -> x.instal(INCOME, 2));
        refuses(check, State.FULL, "instal(1, 2)", NONE, x -> x.instal(HOME, 2));
    }

    @Sentence(RULE + "move")
    static void move(Check check) {
        for (int account : NO_ACCOUNTS) {
            refuse(check, "move(" + account + ", 1, 50)", 0, x -> bit(x.move(account, HOME, 50)));
            refuse(check, "move(1, " + account + ", 50)", 0, x -> bit(x.move(HOME, account, 50)));
        }
        for (long day : NO_DAYS) {
            refuse(check, "move(4, 5, " + day + ")", 0, x -> bit(x.move(THIRD, FOURTH, day)));
        }
        refuse(check, "move(1, 2, 50)", 0, x -> bit(x.move(HOME, OTHER, 50)));
        refuse(check, "move(2, 1, 50)", 0, x -> bit(x.move(OTHER, HOME, 50)));
        refuse(check, "move(4, 4, 50)", 0, x -> bit(x.move(THIRD, THIRD, 50)));
        refuse(check, "move(1, 4, 50)", 0, x -> bit(x.move(HOME, THIRD, 50)));
        refuse(check, "move(4, 1, 50)", 0, x -> bit(x.move(THIRD, HOME, 50)));
        refuse(check, "move(2, 4, 50)", 0, x -> bit(x.move(OTHER, THIRD, 50)));
        refuse(check, "move(4, 2, 50)", 0, x -> bit(x.move(THIRD, OTHER, 50)));
    }

    @Sentence(RULE + "batch and endBatch")
    static void batch(Check check) {
        refuses(check, State.IN_BATCH, "batch()", NONE, x -> x.batch());
        for (State state : State.values()) {
            if (state != State.IN_BATCH) {
                refuses(check, state, "endBatch(true)", 0, x -> bit(x.endBatch(true)));
                refuses(check, state, "endBatch(false)", 0, x -> bit(x.endBatch(false)));
            }
        }
    }

    @Sentence(RULE + "closeMonth")
    static void closeMonth(Check check) {
        for (int month : NO_MONTHS) {
            refuse(check, "closeMonth(" + month + ")", 0, x -> bit(x.closeMonth(month)));
        }
        refuse(check, "closeMonth(119)", 0, x -> bit(x.closeMonth(119)));
        refuseUsed(check, "closeMonth(0)", 0, x -> bit(x.closeMonth(0)));
        refuses(check, State.NEW, "closeMonth(1)", 0, x -> bit(x.closeMonth(1)));
    }

    @Sentence(RULE + "reverse")
    static void reverse(Check check) {
        for (int entry : NO_ENTRIES) {
            refuse(check, "reverse(" + entry + ", 50)", NONE, x -> x.reverse(entry, 50));
        }
        for (int entry : new int[] {LATE, PAID, PAYMENT, REVERSED, REVERSAL, UNEVEN, SIX_ROWS}) {
            refuse(check, "reverse(" + entry + ", 50)", NONE, x -> x.reverse(entry, 50));
        }
        for (long day : NO_DAYS) {
            refuse(check, "reverse(1, " + day + ")", NONE, x -> x.reverse(UNPAID, day));
        }
        refuses(check, State.FULL, "reverse(1, 50)", NONE, x -> x.reverse(UNPAID, 50));
    }

    @Sentence(RULE + "rate")
    static void rate(Check check) {
        for (long wrong : new long[] {-1, 101, (1L << 32) + 5, Long.MIN_VALUE, Long.MAX_VALUE}) {
            refuse(check, "rate(" + wrong + ", 1)", 0, x -> bit(x.rate(wrong, 1)));
            refuse(check, "rate(1, " + wrong + ")", 0, x -> bit(x.rate(1, wrong)));
        }
        refuse(check, "rate(1, 0)", 0, x -> bit(x.rate(1, 0)));
    }
}
