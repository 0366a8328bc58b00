/** The boundary cases that promises 18 to 24 name, a test for each sentence. */
public final class Edges18To24 extends LedgerTest {
    public static void main(String[] args) {
        runSentences(Edges18To24.class);
    }

    @Sentence("18: Closes a month, the next one. Answers true; false when it is not that")
    static void p18TheNext(Check check) {
        HouseLedger x = ledger();
        closeMonths(x, 5);
        for (int month : NO_MONTHS) {
            check.no("month " + month, x.closeMonth(month));
        }
        check.no("the last one again", x.closeMonth(4));
        check.no("the first one again", x.closeMonth(0));
        check.no("one that is behind the next", x.closeMonth(6));
        check.is("it is not late by that", x.entry(150), 0);
        check.yes("the next", x.closeMonth(5));
        check.is("it is late now", x.entry(179), NONE);
    }

    @Sentence("18: or 120 are closed")
    static void p18Full(Check check) {
        HouseLedger x = ledger();
        closeMonths(x, 119);
        check.yes("the last", x.closeMonth(119));
        check.no("the one behind it", x.closeMonth(120));
        check.no("the last again", x.closeMonth(119));
        check.no("the first again", x.closeMonth(0));
        check.is("every day is late", x.entry(3599), NONE);
    }

    @Sentence("19: on a day that may be late")
    static void p19Late(Check check) {
        HouseLedger x = ledger();
        charge(x, 3599, HOME, 5);
        charge(x, 0, HOME, 6);
        closeMonths(x, 120);
        check.is("the first day, before its own", x.reverse(0, 0), 2);
        check.is("the last day", x.reverse(1, 3599), 3);
        check.is("turned round on it", x.balance(HOME, 0), 1);
        check.is("all together", x.balance(HOME, 3599), 0);
    }

    @Sentence("19: one more entry, posted, with its rows turned round, which has no items")
    static void p19TurnedRound(Check check) {
        HouseLedger x = ledger();
        x.entry(5);
        x.row(0, HOME, MOST);
        x.row(0, HOME, -MOST);
        x.row(0, OTHER, -3);
        x.row(0, CASH, 1);
        x.row(0, INCOME, 1);
        x.row(0, INCOME, 1);
        x.close(0);
        check.is("six rows", x.reverse(0, 35), 1);
        check.is("posted", x.close(1), NONE);
        check.is("the least is no item when it is turned", x.item(HOME, 1), NONE);
        check.is("nor another household's", x.item(OTHER, 0), NONE);
        int[] accounts = {HOME, HOME, OTHER, CASH, INCOME, INCOME};
        for (int row = 0; row < 6; row++) {
            int k = row > 0 && accounts[row] == accounts[row - 1] ? 1 : 0;
            check.is("row " + row, x.statement(accounts[row], 1, k), 10 + row);
        }
        check.is("what was less is more", x.balance(OTHER, 35) - x.balance(OTHER, 34), 3);
        check.is("what was more is less", x.balance(CASH, 35) - x.balance(CASH, 34), -1);
        x.entry(5);
        x.close(2);
        check.is("no rows", x.reverse(2, 5), 3);
        check.is("posted, too", x.close(3), NONE);
        check.is("the row of the first", x.statement(CASH, 0, 0), 3);
        check.is("no row of a reversal without rows", x.statement(CASH, 0, 1), NONE);
    }

    @Sentence("19: its own items are due by nothing then")
    static void p19DueByNothing(Check check) {
        HouseLedger x = ledger();
        x.entry(0);
        x.row(0, HOME, 5);
        x.row(0, OTHER, 6);
        x.row(0, HOME, 7);
        x.row(0, INCOME, -18);
        x.row(0, CASH, -9);
        x.row(0, HOME, 9);
        x.close(0);
        charge(x, 0, HOME, 8);
        x.rate(1, 1);
        x.reverse(0, 50);
        check.is("its first", x.item(HOME, 0), 0);
        check.is("its second", x.item(HOME, 1), 0);
        check.is("its last", x.item(HOME, 2), 0);
        check.is("another household's", x.item(OTHER, 0), 0);
        check.is("not the next entry's", x.item(HOME, 3), 8);
        check.is("no instalments", x.instal(OTHER, 1), NONE);
        check.is("no dunning", x.dun(OTHER, 99), 0);
        check.is("no interest", x.interest(OTHER, 99, 0), 0);
        x.payment(HOME, 3, 50);
        check.is("no payment", x.opened(3, 0), 10);
    }

    @Sentence("19: NONE when there is none such")
    static void p19NoEntry(Check check) {
        HouseLedger x = ledger();
        charge(x, 5, HOME, 5);
        for (int entry : NO_ENTRIES) {
            check.is("entry " + entry, x.reverse(entry, 5), NONE);
        }
        check.is("the next entry", x.reverse(1, 5), NONE);
        check.is("no number is lost", x.reverse(0, 5), 1);
    }

    @Sentence("19: it is not posted")
    static void p19Open(Check check) {
        HouseLedger x = ledger();
        x.entry(5);
        check.is("without rows", x.reverse(0, 5), NONE);
        x.row(0, HOME, 5);
        x.row(0, INCOME, -5);
        check.is("with rows", x.reverse(0, 5), NONE);
        check.is("it is open still", x.close(0), 2);
        check.is("it is posted", x.reverse(0, 5), 1);
    }

    @Sentence("19: was reversed, is a reversal")
    static void p19Twice(Check check) {
        HouseLedger x = ledger();
        charge(x, 5, HOME, 5);
        x.entry(5);
        x.close(1);
        x.reverse(0, 5);
        x.reverse(1, 5);
        for (int entry = 0; entry < 4; entry++) {
            check.is("entry " + entry, x.reverse(entry, 5), NONE);
        }
        check.is("no entry came of it", x.entry(5), 4);
    }

    @Sentence("19: or a payment's")
    static void p19Payment(Check check) {
        HouseLedger x = ledger();
        charge(x, 5, HOME, 5);
        x.payment(HOME, 5, 5);
        x.payment(HOME, 5, 5);
        check.is("one that paid", x.reverse(1, 5), NONE);
        check.is("one that paid nothing", x.reverse(2, 5), NONE);
        check.is("the item is paid still", x.item(HOME, 0), 0);
    }

    @Sentence("19: an item of it was paid in part or whole")
    static void p19Paid(Check check) {
        HouseLedger x = ledger();
        x.entry(5);
        x.row(0, HOME, 5);
        x.row(0, INCOME, -7);
        x.row(0, OTHER, 2);
        x.close(0);
        charge(x, 6, OTHER, 2);
        x.batch();
        x.payment(HOME, 1, 5);
        check.is("its first, a cent of it", x.reverse(0, 5), NONE);
        x.payment(HOME, 4, 5);
        check.is("its first, whole", x.reverse(0, 5), NONE);
        x.endBatch(false);
        x.batch();
        x.payment(OTHER, 2, 5);
        check.is("its last, whole", x.reverse(0, 5), NONE);
        check.is("another entry, of which none was", x.reverse(1, 5), 3);
        x.endBatch(false);
        check.is("none was, as that was put back", x.reverse(0, 5), 2);
    }

    @Sentence("19: the day is not such")
    static void p19NoDay(Check check) {
        HouseLedger x = ledger();
        charge(x, 5, HOME, 5);
        for (long day : NO_DAYS) {
            check.is("day " + day, x.reverse(0, day), NONE);
        }
        check.is("its item is due", x.item(HOME, 0), 5);
        check.is("it was not reversed", x.reverse(0, 5), 1);
    }

    @Sentence("19: or there are 40")
    static void p19Full(Check check) {
        HouseLedger x = ledger();
        charge(x, 5, HOME, 5);
        charge(x, 5, OTHER, 6);
        fillWithEntries(x, 5, 37);
        x.batch();
        check.is("the last", x.reverse(0, 5), 39);
        check.is("one more", x.reverse(1, 5), NONE);
        check.is("its item is due", x.item(OTHER, 0), 6);
        x.endBatch(false);
        x.entry(5);
        for (int row = 0; row < 6; row++) {
            x.row(39, HOME, row % 2 == 0 ? 1 : -1);
        }
        check.is("the last has six rows", x.close(39), 6);
        check.is("of the last itself", x.reverse(39, 5), NONE);
    }

    private static void interestIs(Check check, HouseLedger x, long day, long above, long below, long whole) {
        String call = "interest on " + day;
        check.is(call + ", above", x.interest(HOME, day, 0), above);
        check.is(call + ", below", x.interest(HOME, day, 1), below);
        check.is(call + ", whole", x.interest(HOME, day, 2), whole);
    }

    @Sentence("20: for each item, for each day more than 30 behind its own")
    static void p20EachDay(Check check) {
        HouseLedger x = ledger();
        x.rate(36, 1);
        charge(x, 10, HOME, 100);
        charge(x, 20, HOME, 1);
        interestIs(check, x, 0, 0, 1, 0);
        interestIs(check, x, 40, 0, 1, 0);
        interestIs(check, x, 41, 10, 1, 10);
        interestIs(check, x, 50, 100, 1, 100);
        interestIs(check, x, 51, 1101, 10, 110);
        interestIs(check, x, 3599, 355900 + 3549, 10, 35945);
    }

    @Sentence("20: what it is due now times the rate over 360")
    static void p20DueNow(Check check) {
        HouseLedger x = ledger();
        charge(x, 0, HOME, 3600);
        x.rate(1, 100);
        interestIs(check, x, 31, 1, 10, 0);
        x.payment(HOME, 3599, 3000);
        interestIs(check, x, 31, 1, 36000, 0);
        x.payment(HOME, 1, 3000);
        interestIs(check, x, 31, 0, 1, 0);
        interestIs(check, x, 3599, 0, 1, 0);
    }

    @Sentence("20: Part 0 above, 1 below (lowest terms)")
    static void p20LowestTerms(Check check) {
        HouseLedger x = ledger();
        charge(x, 0, HOME, 7);
        interestIs(check, x, 31, 0, 1, 0);
        x.rate(100, 100);
        interestIs(check, x, 31, 7, 360, 0);
        x.rate(90, 7);
        interestIs(check, x, 31, 1, 4, 0);
        x.rate(1, 97);
        interestIs(check, x, 31, 7, 360 * 97, 0);
        HouseLedger y = richLedger(0);
        y.rate(100, 1);
        interestIs(check, y, 3599, 35_690_000_000_000L, 3, 11_896_666_666_667L);
    }

    @Sentence("20: 2 the nearest whole cents, halves up")
    static void p20HalvesUp(Check check) {
        HouseLedger x = ledger();
        charge(x, 0, HOME, 1);
        x.rate(1, 1);
        check.is("179 of 360", x.interest(HOME, 30 + 179, 2), 0);
        check.is("180 of 360", x.interest(HOME, 30 + 180, 2), 1);
        check.is("539 of 360", x.interest(HOME, 30 + 539, 2), 1);
        check.is("540 of 360", x.interest(HOME, 30 + 540, 2), 2);
        check.is("360 of 360", x.interest(HOME, 30 + 360, 2), 1);
        check.is("none", x.interest(HOME, 30, 2), 0);
    }

    @Sentence("20: NONE when there are none such")
    static void p20NoneSuch(Check check) {
        HouseLedger x = ledger();
        charge(x, 0, HOME, 5);
        x.rate(1, 1);
        for (int account : NO_ACCOUNTS) {
            check.is("account " + account, x.interest(account, 50, 0), NONE);
        }
        check.is("the next account", x.interest(4, 50, 0), NONE);
        check.is("cash", x.interest(CASH, 50, 1), NONE);
        check.is("income", x.interest(INCOME, 50, 2), NONE);
        for (long day : NO_DAYS) {
            check.is("day " + day, x.interest(HOME, day, 2), NONE);
        }
        for (int part : new int[] {-1, 3, Integer.MIN_VALUE, Integer.MAX_VALUE}) {
            check.is("part " + part, x.interest(HOME, 50, part), NONE);
        }
    }

    @Sentence("21: above of 0 .. 100")
    static void p21Above(Check check) {
        HouseLedger x = ledger();
        charge(x, 0, HOME, 360);
        x.rate(7, 1);
        for (long above : new long[] {-1, 101, Long.MIN_VALUE, Long.MAX_VALUE, 1L << 32, (1L << 32) + 5}) {
            check.no(above + " over 1", x.rate(above, 1));
        }
        check.is("the one before counts", x.interest(HOME, 31, 0), 7);
        check.yes("the least", x.rate(0, 1));
        check.is("it counts", x.interest(HOME, 31, 0), 0);
        check.yes("the most", x.rate(100, 1));
        check.is("it counts", x.interest(HOME, 31, 0), 100);
    }

    @Sentence("21: below of 1 .. 100")
    static void p21Below(Check check) {
        HouseLedger x = ledger();
        charge(x, 0, HOME, 360);
        x.rate(1, 7);
        for (long below : new long[] {0, -1, 101, Long.MIN_VALUE, Long.MAX_VALUE, 1L << 32, (1L << 32) + 5}) {
            check.no("1 over " + below, x.rate(1, below));
            check.no("0 over " + below, x.rate(0, below));
        }
        check.is("the one before counts", x.interest(HOME, 31, 1), 7);
        check.yes("the least", x.rate(1, 1));
        check.is("it counts", x.interest(HOME, 31, 1), 1);
        check.yes("the most", x.rate(1, 100));
        check.is("it counts", x.interest(HOME, 31, 1), 100);
    }

    @Sentence("22: The k-th row, from 0 on, of an account in a month")
    static void p22OfAMonth(Check check) {
        HouseLedger x = ledger();
        charge(x, 29, HOME, 5);
        charge(x, 30, HOME, 6);
        charge(x, 59, HOME, 7);
        charge(x, 60, HOME, 8);
        check.is("the last day of the month before", x.statement(HOME, 0, 0), 0);
        check.is("the first day", x.statement(HOME, 1, 0), 10);
        check.is("the last day", x.statement(HOME, 1, 1), 20);
        check.is("no more", x.statement(HOME, 1, 2), NONE);
        check.is("the first day of the month behind", x.statement(HOME, 2, 0), 30);
        check.is("of another account", x.statement(INCOME, 1, 1), 21);
    }

    @Sentence("22: of posted entries by their numbers, then rows: 10 times its entry and its row")
    static void p22ByNumbers(Check check) {
        HouseLedger x = ledger();
        x.entry(20);
        x.entry(9);
        x.entry(8);
        charge(x, 7, HOME, 1);
        for (int entry = 2; entry > 0; entry--) {
            for (int row = 0; row < 6; row++) {
                x.row(entry, HOME, row % 2 == 0 ? -1 : 1);
            }
            x.close(entry);
        }
        x.row(0, HOME, 1);
        check.is("no row of an open one", x.statement(HOME, 0, 0), 10);
        check.is("the last row of the first", x.statement(HOME, 0, 5), 15);
        check.is("the first row of the second", x.statement(HOME, 0, 6), 20);
        check.is("the third, of the earliest day", x.statement(HOME, 0, 12), 30);
        check.is("no more", x.statement(HOME, 0, 13), NONE);
        fillWithEntries(x, 0, 35);
        check.is("a payment with the last number", x.payment(HOME, 1, 5), 39);
        check.is("its row", x.statement(HOME, 0, 13), 391);
    }

    @Sentence("22: NONE when there is none such")
    static void p22NoRow(Check check) {
        HouseLedger x = ledger();
        check.is("no rows", x.statement(HOME, 0, 0), NONE);
        charge(x, 0, HOME, 5);
        charge(x, 3599, HOME, 5);
        for (int k : new int[] {-1, 1, 240, Integer.MIN_VALUE, Integer.MAX_VALUE}) {
            check.is("k " + k, x.statement(HOME, 0, k), NONE);
        }
        for (int account : NO_ACCOUNTS) {
            check.is("account " + account, x.statement(account, 0, 0), NONE);
        }
        check.is("the next account", x.statement(4, 0, 0), NONE);
        for (int month : NO_MONTHS) {
            check.is("month " + month, x.statement(HOME, month, 0), NONE);
        }
        check.is("the last month has one", x.statement(HOME, 119, 0), 10);
    }

    @Sentence("23: 19 hundredths, down")
    static void p23Down(Check check) {
        long[] cents = {1, 5, 6, 10, 11, 99, 100, 101, MOST};
        long[] tax = {0, 0, 1, 1, 2, 18, 19, 19, 19_000_000};
        for (int i = 0; i < cents.length; i++) {
            HouseLedger x = ledger();
            charge(x, 40, HOME, cents[i]);
            check.is("tax of " + cents[i], x.tax(1), tax[i]);
        }
        check.is("more than 32 bits", richLedger(40).tax(1), 2_280_000_000L);
    }

    @Sentence("23: of what its income accounts have less by rows of posted entries")
    static void p23PostedRows(Check check) {
        HouseLedger x = ledger();
        for (int account = 4; account < 8; account++) {
            x.account(2);
        }
        check.is("no entries", x.tax(1), 0);
        x.entry(30);
        x.row(0, INCOME, -50);
        x.row(0, 7, -50);
        x.row(0, HOME, 100);
        check.is("an open one", x.tax(1), 0);
        x.close(0);
        check.is("the first and the last income account", x.tax(1), 19);
        post(x, 59, HOME, CASH, 900);
        check.is("cash has less", x.tax(1), 19);
        post(x, 29, HOME, INCOME, 1000);
        post(x, 60, HOME, INCOME, 2000);
        check.is("the days before and behind", x.tax(1), 19);
        check.is("the month before", x.tax(0), 190);
        check.is("the month behind", x.tax(2), 380);
        x.reverse(0, 59);
        check.is("reversed in the month", x.tax(1), 0);
    }

    @Sentence("23: (0 when they have more)")
    static void p23More(Check check) {
        HouseLedger x = ledger();
        charge(x, 40, HOME, 100);
        post(x, 40, INCOME, CASH, 100);
        check.is("as much", x.tax(1), 0);
        post(x, 40, INCOME, CASH, 1);
        check.is("a cent more", x.tax(1), 0);
        post(x, 40, INCOME, CASH, MOST);
        check.is("much more", x.tax(1), 0);
        for (int month : NO_MONTHS) {
            check.is("month " + month, x.tax(month), 0);
        }
    }

    @Sentence("24: The k-th found money")
    static void p24Found(Check check) {
        HouseLedger x = ledger();
        for (int k = 0; k < 20; k++) {
            x.payment(9, 100 + k, 5);
        }
        for (int k = 0; k < 20; k++) {
            check.is("found " + k, x.found(k), 100 + k);
        }
    }

    @Sentence("24: NONE when there is none such")
    static void p24None(Check check) {
        HouseLedger x = ledger();
        check.is("none yet", x.found(0), NONE);
        x.payment(9, 5, 5);
        for (int k : new int[] {-1, 1, 20, 21, Integer.MIN_VALUE, Integer.MAX_VALUE}) {
            check.is("k " + k, x.found(k), NONE);
        }
        for (int i = 0; i < 30; i++) {
            x.payment(9, 5, 5);
        }
        check.is("k 20, though more were told", x.found(20), NONE);
    }
}
