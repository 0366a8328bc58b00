/** The boundary cases that promises 1 to 9 name, a test for each sentence. */
public final class Edges1To9 extends LedgerTest {
    public static void main(String[] args) {
        runSentences(Edges1To9.class);
    }

    @Sentence("1: No accounts")
    static void p01NoAccounts(Check check) {
        HouseLedger x = new HouseLedger();
        x.entry(0);
        check.no("account 0 takes no row", x.row(0, 0, 5));
        check.is("account 0 has no balance", x.balance(0, 3599), 0);
        check.is("account 0 is no household", x.dun(0, 0), NONE);
        check.is("there is no cash", x.payment(0, 5, 0), NONE);
        check.is("the first account", x.account(2), 0);
    }

    @Sentence("1: no entries")
    static void p01NoEntries(Check check) {
        HouseLedger x = ledger();
        check.no("entry 0 takes no row", x.row(0, HOME, 5));
        check.is("entry 0 is not posted", x.close(0), NONE);
        check.is("entry 0 is not reversed", x.reverse(0, 0), NONE);
        check.is("entry 0 gave nothing", x.opened(0, 0), NONE);
        check.is("no row is told", x.statement(CASH, 0, 0), NONE);
        check.is("no item is told", x.item(HOME, 0), NONE);
        check.is("the first entry", x.entry(0), 0);
    }

    @Sentence("1: no batch")
    static void p01NoBatch(Check check) {
        check.no("none to keep", new HouseLedger().endBatch(true));
        check.no("none to put back", new HouseLedger().endBatch(false));
        check.is("none was opened before", new HouseLedger().batch(), 0);
    }

    @Sentence("1: no month is closed")
    static void p01NoClosedMonth(Check check) {
        check.is("the first day is not late", new HouseLedger().entry(0), 0);
        check.yes("month 0 is the next one", new HouseLedger().closeMonth(0));
    }

    @Sentence("2: NONE when there are 8")
    static void p02Full(Check check) {
        HouseLedger x = new HouseLedger();
        for (int i = 0; i < 7; i++) {
            x.account(1);
        }
        check.is("the eighth", x.account(0), 7);
        for (int kind = -1; kind < 4; kind++) {
            check.is("a ninth of kind " + kind, x.account(kind), NONE);
        }
        check.is("account 8 is none", x.dun(8, 0), NONE);
        check.is("account 7 is still cash", x.payment(6, 3, 0), 0);
    }

    @Sentence("2: or there is no such kind")
    static void p02NoSuchKind(Check check) {
        HouseLedger x = new HouseLedger();
        for (int kind : new int[] {-1, 3, 256, Integer.MIN_VALUE, Integer.MAX_VALUE}) {
            check.is("kind " + kind, x.account(kind), NONE);
        }
        check.is("no number is lost, kind 0", x.account(0), 0);
        check.is("kind 2", x.account(2), 1);
    }

    @Sentence("3: NONE when there are 40")
    static void p03Full(Check check) {
        HouseLedger x = ledger();
        fillWithEntries(x, 5, 39);
        check.is("the last", x.entry(5), 39);
        check.is("one more", x.entry(5), NONE);
        check.is("and one more", x.entry(6), NONE);
        check.no("entry 40 is none", x.row(40, HOME, 5));
    }

    @Sentence("3: the day is not such")
    static void p03NoDay(Check check) {
        HouseLedger x = ledger();
        for (long day : NO_DAYS) {
            check.is("day " + day, x.entry(day), NONE);
        }
        check.is("no number is lost", x.entry(0), 0);
    }

    @Sentence("3: or late")
    static void p03Late(Check check) {
        HouseLedger x = ledger();
        x.closeMonth(0);
        check.is("the first late day", x.entry(0), NONE);
        check.is("the last late day", x.entry(29), NONE);
        check.is("the first that is not", x.entry(30), 0);
    }

    @Sentence("4: false when there are none such (entries)")
    static void p04NoEntry(Check check) {
        HouseLedger x = ledger();
        x.entry(5);
        for (int entry : NO_ENTRIES) {
            check.no("entry " + entry, x.row(entry, HOME, 5));
        }
        check.no("the next entry", x.row(1, HOME, 5));
        check.is("entry 0 has none", x.close(0), 0);
    }

    @Sentence("4: false when there are none such (accounts)")
    static void p04NoAccount(Check check) {
        HouseLedger x = ledger();
        x.entry(5);
        for (int account : NO_ACCOUNTS) {
            check.no("account " + account, x.row(0, account, 5));
        }
        check.no("the next account", x.row(0, 4, 5));
        check.is("entry 0 has none", x.close(0), 0);
    }

    @Sentence("4: it is posted")
    static void p04Posted(Check check) {
        HouseLedger x = ledger();
        charge(x, 5, HOME, 5);
        x.entry(5);
        x.close(1);
        x.payment(HOME, 1, 5);
        x.reverse(1, 5);
        check.no("posted with rows", x.row(0, HOME, 5));
        check.no("posted without rows", x.row(1, HOME, 5));
        check.no("a payment's", x.row(2, HOME, 5));
        check.no("a reversal", x.row(3, HOME, 5));
        check.is("nothing came of it", x.balance(HOME, 3599), 4);
    }

    @Sentence("4: it has 6")
    static void p04HasSix(Check check) {
        HouseLedger x = ledger();
        x.entry(5);
        for (int row = 0; row < 5; row++) {
            x.row(0, HOME, 1);
        }
        check.yes("the sixth", x.row(0, INCOME, -4));
        check.no("a seventh, though it is lacking", x.row(0, INCOME, -1));
        check.yes("so it can't be posted", throwsAtClose(x, 0));
    }

    @Sentence("4: or cents are not such")
    static void p04NoCents(Check check) {
        HouseLedger x = ledger();
        x.entry(5);
        for (long cents : NO_CENTS) {
            check.no("cents " + cents, x.row(0, HOME, cents));
        }
        check.is("no row came of it", x.close(0), 0);
    }

    @Sentence("5: Answers how many rows it has")
    static void p05Rows(Check check) {
        HouseLedger x = ledger();
        x.entry(5);
        check.is("no rows", x.close(0), 0);
        for (int rows = 2; rows <= 6; rows++) {
            int entry = x.entry(5);
            for (int row = 1; row < rows; row++) {
                x.row(entry, HOME, 2);
            }
            x.row(entry, INCOME, -2 * (rows - 1));
            check.is(rows + " rows", x.close(entry), rows);
        }
    }

    @Sentence("5: NONE (looked at first) when there is none such")
    static void p05NoEntry(Check check) {
        HouseLedger x = ledger();
        x.entry(5);
        for (int entry : NO_ENTRIES) {
            check.is("entry " + entry, x.close(entry), NONE);
        }
        check.is("the next entry", x.close(1), NONE);
    }

    @Sentence("5: NONE (looked at first) when .. it is posted")
    static void p05Posted(Check check) {
        HouseLedger x = ledger();
        charge(x, 5, HOME, 5);
        x.payment(HOME, 1, 5);
        charge(x, 5, OTHER, 5);
        x.reverse(2, 5);
        for (int entry = 0; entry < 4; entry++) {
            check.is("entry " + entry, x.close(entry), NONE);
        }
    }

    @Sentence("5: NONE (looked at first) when .. its day is late")
    static void p05Late(Check check) {
        HouseLedger x = ledger();
        x.entry(29);
        x.row(0, HOME, 5);
        x.entry(29);
        x.entry(30);
        x.closeMonth(0);
        check.is("rows that are not 0 together", x.close(0), NONE);
        x.row(0, INCOME, -5);
        check.is("rows that are", x.close(0), NONE);
        check.is("no rows", x.close(1), NONE);
        check.is("the first day that is not late", x.close(2), 0);
        check.is("nothing was posted", x.balance(HOME, 3599), 0);
    }

    @Sentence("5: IllegalArgumentException: its rows are not 0 together.")
    static void p05NotNothing(Check check) {
        HouseLedger x = ledger();
        x.entry(5);
        x.row(0, HOME, MOST);
        check.yes("the most", throwsAtClose(x, 0));
        x.row(0, INCOME, 1 - MOST);
        check.yes("a cent too many", throwsAtClose(x, 0));
        x.row(0, INCOME, -2);
        check.yes("a cent too few", throwsAtClose(x, 0));
        check.is("nothing is posted", x.balance(HOME, 3599), 0);
        check.is("no item is made", x.item(HOME, 0), NONE);
        x.row(0, OTHER, 1);
        check.is("0 together, and still open", x.close(0), 4);
    }

    @Sentence("6: 0 when there is none such")
    static void p06NoBalance(Check check) {
        HouseLedger x = ledger();
        charge(x, 0, HOME, 5);
        for (int account : NO_ACCOUNTS) {
            check.is("account " + account, x.balance(account, 5), 0);
        }
        check.is("the next account", x.balance(4, 5), 0);
        for (long day : NO_DAYS) {
            check.is("day " + day, x.balance(HOME, day), 0);
        }
    }

    @Sentence("7: A payment of 1 .. 100000000 cents")
    static void p07Cents(Check check) {
        HouseLedger x = ledger();
        charge(x, 0, HOME, MOST);
        for (long cents : NO_CENTS) {
            check.is("cents " + cents, x.payment(HOME, cents, 5), NONE);
        }
        check.is("cents -1", x.payment(HOME, -1, 5), NONE);
        check.is("nothing is paid", x.item(HOME, 0), MOST);
        check.is("the least", x.payment(HOME, 1, 5), 1);
        check.is("the most", x.payment(HOME, MOST, 5), 2);
        check.is("both count", x.balance(CASH, 5), MOST + 1);
    }

    @Sentence("7: to the first account that is of kind 0")
    static void p07FirstCash(Check check) {
        HouseLedger x = new HouseLedger();
        for (int account = 0; account < 6; account++) {
            x.account(1);
        }
        x.account(0);
        x.account(0);
        x.payment(0, 9, 5);
        check.is("the first", x.balance(6, 5), 9);
        check.is("not the last", x.balance(7, 5), 0);
    }

    @Sentence("7: one more entry with two rows, the cash's first (as much more), the household's (less)")
    static void p07TwoRows(Check check) {
        HouseLedger x = ledger();
        x.payment(HOME, MOST, 5);
        check.is("row 0", x.statement(CASH, 0, 0), 0);
        check.is("row 1", x.statement(HOME, 0, 0), 1);
        check.is("no other of cash", x.statement(CASH, 0, 1), NONE);
        check.is("no other of the household", x.statement(HOME, 0, 1), NONE);
        check.is("as much more", x.balance(CASH, 5), MOST);
        check.is("as much less", x.balance(HOME, 5), -MOST);
    }

    @Sentence("7: Its items are paid, the first ones first, as far as it goes.")
    static void p07PaysTheFirst(Check check) {
        HouseLedger x = ledger();
        charge(x, 3599, HOME, 10);
        charge(x, 0, HOME, 20);
        charge(x, 5, HOME, 30);
        charge(x, 0, OTHER, 40);
        x.payment(HOME, 20, 3);
        check.is("the first, just enough", x.item(HOME, 0), 0);
        check.is("the second has nothing yet", x.item(HOME, 1), 30);
        x.payment(HOME, 31, 3);
        check.is("the second", x.item(HOME, 1), 0);
        check.is("a cent for the third", x.item(HOME, 2), 9);
        x.payment(HOME, MOST, 3);
        check.is("more than all", x.item(HOME, 2), 0);
        check.is("another's items are not", x.item(OTHER, 0), 40);
    }

    @Sentence("7: NONE when .. the day are not such, the day is late")
    static void p07NoDay(Check check) {
        HouseLedger x = ledger();
        for (long day : NO_DAYS) {
            check.is("day " + day, x.payment(HOME, 5, day), NONE);
        }
        x.closeMonth(0);
        check.is("the first late day", x.payment(HOME, 5, 0), NONE);
        check.is("the last late day", x.payment(HOME, 5, 29), NONE);
        check.is("the first that is not", x.payment(HOME, 5, 30), 0);
        check.is("nothing is found", x.found(0), NONE);
    }

    @Sentence("7: NONE when .. there is no such household")
    static void p07NoHousehold(Check check) {
        HouseLedger x = ledger();
        for (int account : NO_ACCOUNTS) {
            check.is("account " + account, x.payment(account, 5, 5), NONE);
        }
        check.is("the next account", x.payment(4, 5, 5), NONE);
        check.is("cash", x.payment(CASH, 5, 5), NONE);
        check.is("income", x.payment(INCOME, 5, 5), NONE);
        check.is("no entry came of it", x.entry(5), 0);
        check.is("no cash came of it", x.balance(CASH, 3599), 0);
    }

    @Sentence("7: NONE when .. or no cash")
    static void p07NoCash(Check check) {
        HouseLedger x = new HouseLedger();
        x.account(1);
        x.account(2);
        check.is("none", x.payment(0, 5, 5), NONE);
        x.account(0);
        check.is("there is one now", x.payment(0, 5, 5), 0);
        check.is("of which the first had nothing", x.balance(2, 5), 5);
    }

    @Sentence("7: NONE when .. or there are 40 entries")
    static void p07Full(Check check) {
        HouseLedger x = ledger();
        charge(x, 5, HOME, 9);
        charge(x, 5, OTHER, 9);
        fillWithEntries(x, 5, 37);
        check.is("the last, of more than is due", x.payment(HOME, 10, 5), 39);
        check.is("one more", x.payment(OTHER, 1, 5), NONE);
        check.is("nothing more is paid", x.item(OTHER, 0), 9);
        check.is("nothing is found", x.found(0), NONE);
    }

    @Sentence("7: then, if only the household is none such, the cents are FOUND money")
    static void p07Found(Check check) {
        HouseLedger x = ledger();
        x.payment(4, 0, 5);
        x.payment(4, MOST + 1, 5);
        x.payment(4, 5, -1);
        x.payment(4, 5, 3600);
        x.closeMonth(0);
        x.payment(4, 5, 29);
        check.is("more is amiss", x.found(0), NONE);
        x.payment(4, 1, 30);
        x.payment(CASH, MOST, 3599);
        check.is("the least", x.found(0), 1);
        check.is("the most", x.found(1), MOST);
        fillWithEntries(x, 30, 39);
        x.payment(-1, 2, 30);
        check.is("39 entries", x.found(2), 2);
        x.entry(30);
        x.payment(-1, 3, 30);
        check.is("40 entries", x.found(3), NONE);
        HouseLedger y = new HouseLedger();
        y.account(1);
        y.payment(1, 5, 5);
        check.is("no cash", y.found(0), NONE);
    }

    @Sentence("7: (20 times at most; then they are not)")
    static void p07FoundTwenty(Check check) {
        HouseLedger x = ledger();
        for (int i = 0; i < 19; i++) {
            x.payment(4, 5, 5);
        }
        check.is("the twentieth", x.payment(4, 6, 5), NONE);
        check.is("is kept", x.found(19), 6);
        check.is("one more", x.payment(4, 7, 5), NONE);
        check.is("is not", x.found(20), NONE);
        check.is("nor in another's place", x.found(19), 6);
        check.is("nor in the first's", x.found(0), 5);
        check.is("a household still pays", x.payment(HOME, 8, 5), 0);
    }

    @Sentence("8: the k-th item, from 0 on")
    static void p08FromNothingOn(Check check) {
        HouseLedger x = richLedger(7);
        check.is("item 0", x.item(HOME, 0), MOST);
        check.is("the last of many", x.item(HOME, 119), MOST);
        check.is("one more", x.item(HOME, 120), NONE);
    }

    @Sentence("8: NONE when there is none such")
    static void p08NoItem(Check check) {
        HouseLedger x = ledger();
        check.is("no items", x.item(HOME, 0), NONE);
        charge(x, 5, HOME, 5);
        for (int k : new int[] {-1, 1, 240, Integer.MIN_VALUE, Integer.MAX_VALUE}) {
            check.is("k " + k, x.item(HOME, k), NONE);
        }
        for (int account : NO_ACCOUNTS) {
            check.is("account " + account, x.item(account, 0), NONE);
        }
        check.is("cash", x.item(CASH, 0), NONE);
        check.is("income", x.item(INCOME, 0), NONE);
        check.is("the next account", x.item(4, 0), NONE);
        HouseLedger y = new HouseLedger();
        y.account(1);
        y.entry(5);
        y.row(0, 0, 7);
        y.row(0, 0, -7);
        y.close(0);
        check.is("the row that was told to household 0", y.item(0, 0), 7);
        check.is("the rows that were not", y.item(0, 1), NONE);
    }

    @Sentence("8: (Items that are due by nothing count, too.)")
    static void p08PaidItemsCount(Check check) {
        HouseLedger x = ledger();
        charge(x, 5, HOME, 5);
        charge(x, 6, HOME, 6);
        charge(x, 7, HOME, 7);
        x.payment(HOME, 5, 9);
        x.reverse(1, 9);
        check.is("a paid one", x.item(HOME, 0), 0);
        check.is("a reversed one", x.item(HOME, 1), 0);
        check.is("the third", x.item(HOME, 2), 7);
        check.is("no fourth", x.item(HOME, 3), NONE);
    }

    @Sentence("9: told as 10 times its entry and its row")
    static void p09Told(Check check) {
        HouseLedger x = ledger();
        fillWithEntries(x, 5, 38);
        x.entry(5);
        for (int row = 0; row < 5; row++) {
            x.row(38, INCOME, -1);
        }
        x.row(38, HOME, 5);
        x.close(38);
        check.is("the last payment", x.payment(HOME, 5, 5), 39);
        check.is("the last entry's last row", x.opened(39, 0), 385);
        HouseLedger y = ledger();
        charge(y, 5, HOME, 5);
        y.payment(HOME, 5, 5);
        check.is("the first entry's first row", y.opened(1, 0), 0);
    }

    @Sentence("9: to which a payment's entry gave something")
    static void p09GaveSomething(Check check) {
        HouseLedger x = ledger();
        charge(x, 5, HOME, 5);
        charge(x, 5, HOME, 6);
        charge(x, 5, HOME, 7);
        x.reverse(1, 5);
        check.is("one payment", x.payment(HOME, 6, 5), 4);
        check.is("its first", x.opened(4, 0), 0);
        check.is("not the reversed one, a cent to the third", x.opened(4, 1), 20);
        check.is("no more", x.opened(4, 2), NONE);
        charge(x, 5, HOME, 8);
        x.payment(HOME, 6, 5);
        check.is("just the rest", x.opened(6, 0), 20);
        check.is("nothing is left for the fourth", x.opened(6, 1), NONE);
        x.payment(HOME, 9, 5);
        check.is("the fourth", x.opened(7, 0), 50);
        check.is("no item for what is left", x.opened(7, 1), NONE);
        x.payment(HOME, 9, 5);
        check.is("nothing to give to", x.opened(8, 0), NONE);
    }

    @Sentence("9: NONE when there is none such")
    static void p09NoItem(Check check) {
        HouseLedger x = ledger();
        charge(x, 5, HOME, 5);
        x.payment(HOME, 5, 5);
        charge(x, 5, OTHER, 5);
        x.reverse(2, 5);
        for (int k : new int[] {-1, 1, 280, Integer.MIN_VALUE, Integer.MAX_VALUE}) {
            check.is("k " + k, x.opened(1, k), NONE);
        }
        for (int entry : NO_ENTRIES) {
            check.is("entry " + entry, x.opened(entry, 0), NONE);
        }
        check.is("no payment's", x.opened(0, 0), NONE);
        check.is("a reversal", x.opened(3, 0), NONE);
        check.is("the next entry", x.opened(4, 0), NONE);
    }
}
