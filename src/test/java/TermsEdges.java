/** The boundary cases that 'Terms' names, a test for each sentence. */
public final class TermsEdges extends LedgerTest {
    public static void main(String[] args) {
        runSentences(TermsEdges.class);
    }

    @Sentence("what it is: An object is used for at most 512 calls after it has been made")
    static void callsAre512(Check check) {
        HouseLedger x = new HouseLedger();
        for (int pair = 0; pair < 256; pair++) {
            check.is("batch " + pair, x.batch(), pair);
            check.yes("end of batch " + pair, x.endBatch(pair % 2 == 0));
        }
    }

    @Sentence("terms: There are ACCOUNTS, numbered from 0 on, 8 at most")
    static void accountsAreEight(Check check) {
        HouseLedger x = new HouseLedger();
        for (int i = 0; i < 10; i++) {
            check.is("account " + i, x.account(1), i < 8 ? i : NONE);
        }
        check.is("the first is there", x.dun(0, 0), 0);
        check.is("the eighth is there", x.dun(7, 0), 0);
        check.is("a ninth is not", x.dun(8, 0), NONE);
    }

    @Sentence("terms: each of a kind: 0 CASH, 1 household, 2 income")
    static void kindsDiffer(Check check) {
        HouseLedger x = new HouseLedger();
        x.account(2);
        x.account(1);
        x.account(0);
        x.entry(0);
        x.row(0, 0, -100);
        x.row(0, 1, 60);
        x.row(0, 2, 40);
        x.close(0);
        check.is("income is taxed", x.tax(0), 19);
        check.is("a household has items", x.item(1, 0), 60);
        check.is("cash has none", x.item(2, 0), NONE);
        check.is("income has none", x.item(0, 0), NONE);
        x.payment(1, 5, 0);
        check.is("cash takes a payment", x.balance(2, 0), 45);
    }

    @Sentence("terms: DAYS are 0 .. 3599")
    static void daysHaveTwoEnds(Check check) {
        for (long day : new long[] {0, 3599}) {
            HouseLedger x = ledger();
            String on = " on day " + day;
            check.is("entry" + on, x.entry(day), 0);
            x.row(0, HOME, 7);
            x.row(0, INCOME, -7);
            check.is("close" + on, x.close(0), 2);
            check.is("balance" + on, x.balance(HOME, day), 7);
            check.is("dun" + on, x.dun(HOME, day), 0);
            check.is("interest" + on, x.interest(HOME, day, 1), 1);
            check.yes("move" + on, x.move(HOME, OTHER, day));
            check.is("reverse" + on, x.reverse(0, day), 1);
            check.is("payment" + on, x.payment(HOME, 1, day), 2);
        }
    }

    @Sentence("terms: DAYS are 0 .. 3599 (and nothing else is one)")
    static void daysEnd(Check check) {
        HouseLedger x = ledger();
        charge(x, 0, HOME, 7);
        for (long day : NO_DAYS) {
            String on = " on day " + day;
            check.is("entry" + on, x.entry(day), NONE);
            check.is("balance" + on, x.balance(HOME, day), 0);
            check.is("payment" + on, x.payment(HOME, 1, day), NONE);
            check.is("dun" + on, x.dun(HOME, day), NONE);
            check.no("move" + on, x.move(HOME, OTHER, day));
            check.is("reverse" + on, x.reverse(0, day), NONE);
            check.is("interest" + on, x.interest(HOME, day, 0), NONE);
        }
    }

    @Sentence("terms: a MONTH is a day over 30, down")
    static void monthsHaveThirtyDays(Check check) {
        HouseLedger x = ledger();
        long[] days = {0, 29, 30, 59, 60, 3569, 3570, 3599};
        int[] months = {0, 0, 1, 1, 2, 118, 119, 119};
        for (long day : days) {
            charge(x, day, HOME, 100);
        }
        for (int entry = 0; entry < days.length; entry++) {
            int k = entry > 0 && months[entry] == months[entry - 1] ? 1 : 0;
            check.is("row of day " + days[entry], x.statement(HOME, months[entry], k), 10 * entry);
        }
        check.is("month 0 ends", x.statement(HOME, 0, 2), NONE);
        check.is("month 1 ends", x.statement(HOME, 1, 2), NONE);
        check.is("month 2 ends", x.statement(HOME, 2, 1), NONE);
        check.is("month 119 ends", x.statement(HOME, 119, 2), NONE);
        check.is("tax of month 118", x.tax(118), 19);
        check.is("tax of month 119", x.tax(119), 38);
    }

    @Sentence("terms: ENTRIES are numbered from 0 on, 40 at most")
    static void entriesAreForty(Check check) {
        HouseLedger x = ledger();
        for (int entry = 0; entry < 36; entry += 3) {
            check.is("entry", charge(x, 5, HOME, 1), entry);
            check.is("reversal", x.reverse(entry, 5), entry + 1);
            check.is("payment", x.payment(HOME, 1, 5), entry + 2);
        }
        check.is("entry", charge(x, 5, OTHER, 1), 36);
        fillWithEntries(x, 5, 3);
        check.no("there is none with the number 40", x.row(40, HOME, 1));
        check.yes("there is one with the number 39", x.row(39, HOME, 1));
        check.is("no more by entry", x.entry(5), NONE);
        check.is("no more by payment", x.payment(HOME, 1, 5), NONE);
        check.is("no more by reverse", x.reverse(36, 5), NONE);
    }

    @Sentence("terms: with up to 6 ROWS")
    static void rowsAreSix(Check check) {
        HouseLedger x = ledger();
        x.entry(5);
        x.entry(5);
        for (int row = 0; row < 8; row++) {
            check.is("row " + row, x.row(0, HOME, row % 2 == 0 ? 1 : -1) ? 1 : 0, row < 6 ? 1 : 0);
        }
        check.is("six rows", x.close(0), 6);
        check.is("the last of them", x.statement(HOME, 0, 5), 5);
        check.is("none behind it", x.statement(HOME, 0, 6), NONE);
        check.is("none went to the next entry", x.close(1), 0);
    }

    @Sentence("terms: an account and cents (-100000000 .. 100000000, not 0)")
    static void centsHaveTwoEnds(Check check) {
        HouseLedger x = ledger();
        x.entry(5);
        for (long cents : NO_CENTS) {
            check.no("cents " + cents, x.row(0, HOME, cents));
        }
        check.yes("the most", x.row(0, HOME, MOST));
        check.yes("the least", x.row(0, INCOME, -MOST));
        check.yes("the least above 0", x.row(0, HOME, 1));
        check.yes("the most below 0", x.row(0, INCOME, -1));
        check.is("four rows", x.close(0), 4);
        check.is("all of it", x.balance(HOME, 5), MOST + 1);
    }

    @Sentence("terms: in the order in which they were told")
    static void rowsStandAsTold(Check check) {
        HouseLedger x = ledger();
        x.entry(5);
        x.row(0, OTHER, 3);
        x.row(0, HOME, 9);
        x.row(0, INCOME, -14);
        x.row(0, HOME, 2);
        x.close(0);
        check.is("row 0", x.statement(OTHER, 0, 0), 0);
        check.is("row 1", x.statement(HOME, 0, 0), 1);
        check.is("row 2", x.statement(INCOME, 0, 0), 2);
        check.is("row 3", x.statement(HOME, 0, 1), 3);
        check.is("the item of row 1 is first", x.item(HOME, 0), 9);
    }

    @Sentence("terms: An entry is OPEN until it is POSTED; it may be REVERSED later (it stays posted).")
    static void entriesAreOpenThenPosted(Check check) {
        HouseLedger x = ledger();
        x.entry(5);
        check.yes("open", x.row(0, HOME, 7));
        x.row(0, INCOME, -7);
        x.close(0);
        check.no("posted", x.row(0, HOME, 7));
        x.reverse(0, 9);
        check.no("reversed, it takes no row", x.row(0, HOME, 7));
        check.is("nor is it posted again", x.close(0), NONE);
        check.is("it counts", x.balance(HOME, 8), 7);
        check.is("it stands in the statement", x.statement(HOME, 0, 0), 0);
        check.is("and is turned round by another", x.balance(HOME, 9), 0);
    }

    @Sentence("terms: each row of a posted entry that is above 0 and on a household is an item of it")
    static void itemsAreAboveNothing(Check check) {
        HouseLedger x = ledger();
        x.entry(5);
        x.row(0, HOME, -1);
        x.row(0, CASH, 4);
        x.row(0, HOME, 1);
        x.row(0, INCOME, -4);
        check.is("an open entry has none", x.item(HOME, 0), NONE);
        x.close(0);
        check.is("one cent is one", x.item(HOME, 0), 1);
        check.is("less than nothing is none", x.item(HOME, 1), NONE);
        check.is("cash has none", x.item(CASH, 0), NONE);
        charge(x, 5, OTHER, MOST);
        check.is("the most cents", x.item(OTHER, 0), MOST);
    }

    @Sentence("terms: it is DUE by its cents at first; what pays it makes that less.")
    static void itemsAreDue(Check check) {
        HouseLedger x = ledger();
        charge(x, 5, HOME, 10);
        check.is("at first", x.item(HOME, 0), 10);
        x.payment(HOME, 1, 5);
        check.is("a cent less", x.item(HOME, 0), 9);
        x.payment(HOME, 8, 5);
        check.is("a cent is left", x.item(HOME, 0), 1);
        x.payment(HOME, 2, 5);
        check.is("never less than nothing", x.item(HOME, 0), 0);
        x.payment(HOME, 2, 5);
        check.is("nor later", x.item(HOME, 0), 0);
    }

    @Sentence("terms: Items of an account stand by days of their entries, then by entries, then by rows.")
    static void itemsStandInOrder(Check check) {
        HouseLedger x = ledger();
        int[] days = {3599, 40, 40, 0, 41};
        for (int entry = 0; entry < days.length; entry++) {
            x.entry(days[entry]);
        }
        for (int entry = days.length - 1; entry >= 0; entry--) {
            x.row(entry, HOME, 10 * entry + 1);
            x.row(entry, HOME, 10 * entry + 2);
            x.row(entry, INCOME, -20 * entry - 3);
            x.close(entry);
        }
        int[] due = {31, 32, 11, 12, 21, 22, 41, 42, 1, 2};
        for (int k = 0; k < due.length; k++) {
            check.is("item " + k, x.item(HOME, k), due[k]);
        }
        check.is("item 10", x.item(HOME, 10), NONE);
    }

    @Sentence("terms: the sum of its rows in posted entries of that day or before")
    static void balanceIsOfThatDayOrBefore(Check check) {
        HouseLedger x = ledger();
        charge(x, 40, HOME, 7);
        check.is("the day before", x.balance(HOME, 39), 0);
        check.is("that day", x.balance(HOME, 40), 7);
        check.is("the day behind", x.balance(HOME, 41), 7);
        x.entry(40);
        x.row(1, HOME, 3);
        check.is("not of open entries", x.balance(HOME, 41), 7);
        HouseLedger y = richLedger(3599);
        check.is("more than 32 bits", y.balance(HOME, 3599), 120 * MOST);
        check.is("less than 32 bits", y.balance(INCOME, 3599), -120 * MOST);
        check.is("none of it before", y.balance(HOME, 3598), 0);
    }

    @Sentence("terms: Months CLOSE one behind the other, from 0 on.")
    static void monthsCloseInOrder(Check check) {
        HouseLedger x = ledger();
        check.no("1 before 0", x.closeMonth(1));
        check.is("month 1 is not late", x.entry(30), 0);
        check.yes("0", x.closeMonth(0));
        check.no("2 before 1", x.closeMonth(2));
        check.yes("1", x.closeMonth(1));
    }

    @Sentence("terms: A day whose month is closed is LATE.")
    static void closedMonthsAreLate(Check check) {
        HouseLedger x = ledger();
        check.is("no month is closed, first day", x.entry(0), 0);
        closeMonths(x, 119);
        check.is("the last late day", x.entry(3569), NONE);
        check.is("the first late day", x.entry(0), NONE);
        check.is("the first day that is not", x.entry(3570), 1);
        check.is("the last day that is not", x.entry(3599), 2);
        x.closeMonth(119);
        check.is("all are closed, first day of the last", x.entry(3570), NONE);
        check.is("all are closed, last day", x.entry(3599), NONE);
    }

    @Sentence("terms: its STEP is 0 at first")
    static void stepIsNothingAtFirst(Check check) {
        HouseLedger x = ledger();
        check.is("nothing to dun for", x.dun(HOME, 0), 0);
        charge(x, 0, OTHER, 1);
        check.is("one more than 0", x.dun(OTHER, 31), 1);
    }

    @Sentence("terms: a RATE, above over below for 360 days (0 over 1 at first)")
    static void rateIsNothingAtFirst(Check check) {
        HouseLedger x = ledger();
        charge(x, 0, HOME, 100);
        check.is("above", x.interest(HOME, 390, 0), 0);
        check.is("below", x.interest(HOME, 390, 1), 1);
        check.is("whole", x.interest(HOME, 390, 2), 0);
        x.rate(3, 7);
        check.is("360 days, above", x.interest(HOME, 390, 0), 300);
        check.is("360 days, below", x.interest(HOME, 390, 1), 7);
    }

    @Sentence("terms: A BATCH is open, or none.")
    static void oneBatchIsOpen(Check check) {
        HouseLedger x = ledger();
        check.no("none at first", x.endBatch(true));
        x.batch();
        check.is("no second one", x.batch(), NONE);
        check.yes("it ends once", x.endBatch(true));
        check.no("and not again", x.endBatch(true));
    }

    @Sentence("terms: When it is put back, all is as it was when it was opened (but that none is open).")
    static void putBackToTheOpening(Check check) {
        HouseLedger x = ledger();
        x.entry(5);
        x.row(0, HOME, 9);
        x.batch();
        x.row(0, INCOME, -9);
        x.close(0);
        x.batch();
        x.payment(HOME, 4, 5);
        check.yes("put back", x.endBatch(false));
        check.is("to the opening, not to the refused one", x.item(HOME, 0), NONE);
        check.yes("the row is gone, the entry open", throwsAtClose(x, 0));
        check.no("none is open", x.endBatch(false));
        x.row(0, INCOME, -9);
        check.is("all goes on from there", x.close(0), 2);
    }
}
