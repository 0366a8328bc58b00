/** The boundary cases that promises 10 to 17 name, a test for each sentence. */
public final class Edges10To17 extends LedgerTest {
    public static void main(String[] args) {
        runSentences(Edges10To17.class);
    }

    @Sentence("10: when all its items of days 31 or more before are due by nothing its step is 0")
    static void p10NothingDue(Check check) {
        HouseLedger x = ledger();
        charge(x, 0, HOME, 5);
        charge(x, 10, HOME, 5);
        check.is("30 days before", x.dun(HOME, 30), 0);
        check.is("31 days before", x.dun(HOME, 31), 1);
        x.payment(HOME, 4, 31);
        check.is("a cent is due", x.dun(HOME, 40), 1);
        x.payment(HOME, 1, 31);
        check.is("nothing is, the other is of 30 days before", x.dun(HOME, 40), 0);
        check.is("the other is of 31 days before", x.dun(HOME, 41), 1);
        x.reverse(1, 41);
        check.is("a reversed one is due by nothing", x.dun(HOME, 42), 0);
    }

    @Sentence("10: when the day is not in its hardship")
    static void p10Hardship(Check check) {
        HouseLedger x = ledger();
        charge(x, 0, HOME, 5);
        x.hardship(HOME, 100, 200);
        check.is("the day before", x.dun(HOME, 99), 1);
        check.is("the first day of it", x.dun(HOME, 100), 1);
        check.is("the last day of it, 14 days and more", x.dun(HOME, 200), 1);
        check.is("the day behind", x.dun(HOME, 201), 2);
        check.is("in it a step stays", x.dun(HOME, 150), 2);
        x.payment(HOME, 5, 150);
        check.is("but is 0 when nothing is due", x.dun(HOME, 150), 0);
    }

    @Sentence("10: its step is 0 or was reached 14 days before or more")
    static void p10Fortnight(Check check) {
        HouseLedger x = ledger();
        charge(x, 0, HOME, 5);
        check.is("step 0", x.dun(HOME, 40), 1);
        check.is("the same day", x.dun(HOME, 40), 1);
        check.is("an earlier day", x.dun(HOME, 31), 1);
        check.is("13 days", x.dun(HOME, 53), 1);
        check.is("14 days", x.dun(HOME, 54), 2);
        check.is("13 days from the second", x.dun(HOME, 67), 2);
        check.is("15 days from the second", x.dun(HOME, 69), 3);
        x.dun(HOME, 30);
        check.is("from 0 it is one at once", x.dun(HOME, 70), 1);
    }

    @Sentence("10: it is one more, 3 at most, reached on this day (also at 3)")
    static void p10ThreeAtMost(Check check) {
        HouseLedger x = ledger();
        charge(x, 0, HOME, 5);
        for (int i = 0; i < 8; i++) {
            check.is("dun " + i, x.dun(HOME, 3400 + 14 * i), Math.min(3, i + 1));
        }
        check.is("last day", x.dun(HOME, 3599), 3);
    }

    @Sentence("10: NONE when there are none such")
    static void p10NoneSuch(Check check) {
        HouseLedger x = ledger();
        charge(x, 0, HOME, 5);
        x.dun(HOME, 40);
        for (int account : NO_ACCOUNTS) {
            check.is("account " + account, x.dun(account, 50), NONE);
        }
        check.is("the next account", x.dun(4, 50), NONE);
        check.is("cash", x.dun(CASH, 50), NONE);
        check.is("income", x.dun(INCOME, 50), NONE);
        for (long day : NO_DAYS) {
            check.is("day " + day, x.dun(HOME, day), NONE);
        }
        check.is("the step is as it was", x.dun(HOME, 53), 1);
    }

    @Sentence("11: a span of days (any longs, also beyond the days), both ends with it")
    static void p11AnyLongs(Check check) {
        HouseLedger x = ledger();
        charge(x, 0, HOME, 5);
        long[][] in = {{40, 40}, {39, 40}, {40, 41}, {Long.MIN_VALUE, 40}, {40, Long.MAX_VALUE},
            {Long.MIN_VALUE, Long.MAX_VALUE}, {-1, 3600}};
        for (long[] span : in) {
            check.yes("hardship " + span[0] + " to " + span[1], x.hardship(HOME, span[0], span[1]));
            check.is("day 40 is in it", x.dun(HOME, 40), 0);
        }
        long[][] out = {{41, 41}, {39, 39}, {Long.MIN_VALUE, 39}, {41, Long.MAX_VALUE},
            {Long.MIN_VALUE, Long.MIN_VALUE}, {Long.MAX_VALUE, Long.MAX_VALUE}, {-9, -1}, {3600, 9999},
            {40 - (1L << 32), 41 - (1L << 32)}, {(1L << 32) + 39, (1L << 32) + 41}};
        for (long[] span : out) {
            check.yes("hardship " + span[0] + " to " + span[1], x.hardship(HOME, span[0], span[1]));
            check.is("day 40 is not in it", x.dun(HOME, 40), 1);
            x.dun(HOME, 0);
        }
    }

    @Sentence("11: (the latest counts)")
    static void p11TheLatest(Check check) {
        HouseLedger x = ledger();
        charge(x, 0, HOME, 5);
        charge(x, 0, OTHER, 5);
        x.hardship(HOME, 40, 40);
        x.hardship(HOME, 41, 41);
        check.is("the latest", x.dun(HOME, 41), 0);
        check.is("not the one before", x.dun(HOME, 40), 1);
        check.is("not of another household", x.dun(OTHER, 41), 1);
    }

    @Sentence("11: false when there is none such")
    static void p11NoHousehold(Check check) {
        HouseLedger x = ledger();
        for (int account : NO_ACCOUNTS) {
            check.no("account " + account, x.hardship(account, 1, 2));
        }
        check.no("the next account", x.hardship(4, 1, 2));
        check.no("cash", x.hardship(CASH, 1, 2));
        check.no("income", x.hardship(INCOME, 1, 2));
    }

    @Sentence("11: or from is more than to")
    static void p11TurnedRound(Check check) {
        HouseLedger x = ledger();
        charge(x, 0, HOME, 5);
        x.hardship(HOME, 40, 50);
        check.no("a day more", x.hardship(HOME, 61, 60));
        check.no("the most", x.hardship(HOME, Long.MAX_VALUE, Long.MIN_VALUE));
        check.no("more by all longs", x.hardship(HOME, 1, Long.MIN_VALUE));
        check.is("the one before still counts", x.dun(HOME, 50), 0);
        check.yes("as much", x.hardship(HOME, 60, 60));
        check.is("the new one counts", x.dun(HOME, 50), 1);
    }

    @Sentence("12: All that a household's items are due, together, in 1 .. 24 parts")
    static void p12Parts(Check check) {
        HouseLedger x = ledger();
        charge(x, 0, HOME, 50);
        charge(x, 3599, HOME, 50);
        charge(x, 0, OTHER, 1000);
        for (int months : new int[] {0, -1, 25, Integer.MIN_VALUE, Integer.MAX_VALUE}) {
            check.is(months + " parts", x.instal(HOME, months), NONE);
        }
        check.is("1 part", x.instal(HOME, 1), 0);
        check.is("all of it", x.due(0, 0), 100);
        check.is("24 parts", x.instal(HOME, 24), 1);
        check.is("the first", x.due(1, 0), 5);
        check.is("the last", x.due(1, 23), 4);
        x.payment(HOME, 60, 9);
        check.is("what is due still", x.instal(HOME, 1), 2);
        check.is("is less", x.due(2, 0), 40);
    }

    @Sentence("12: each that over the parts, down, those first that are left over getting a cent more")
    static void p12LeftOver(Check check) {
        HouseLedger x = ledger();
        charge(x, 0, HOME, 21);
        x.instal(HOME, 7);
        check.is("nothing is left over, first", x.due(0, 0), 3);
        check.is("nothing is left over, last", x.due(0, 6), 3);
        charge(x, 0, HOME, 1);
        x.instal(HOME, 7);
        check.is("one, first", x.due(1, 0), 4);
        check.is("one, second", x.due(1, 1), 3);
        charge(x, 0, HOME, 5);
        x.instal(HOME, 7);
        check.is("six, last but one", x.due(2, 5), 4);
        check.is("six, last", x.due(2, 6), 3);
        x.payment(HOME, 26, 0);
        x.instal(HOME, 24);
        check.is("a cent in 24 parts, first", x.due(3, 0), 1);
        check.is("a cent in 24 parts, second", x.due(3, 1), 0);
        check.is("a cent in 24 parts, last", x.due(3, 23), 0);
    }

    @Sentence("12: NONE when there is none such")
    static void p12NoHousehold(Check check) {
        HouseLedger x = ledger();
        charge(x, 0, HOME, 5);
        post(x, 0, CASH, INCOME, 5);
        for (int account : NO_ACCOUNTS) {
            check.is("account " + account, x.instal(account, 3), NONE);
        }
        check.is("the next account", x.instal(4, 3), NONE);
        check.is("cash", x.instal(CASH, 3), NONE);
        check.is("income", x.instal(INCOME, 3), NONE);
        check.is("no number is lost", x.instal(HOME, 3), 0);
    }

    @Sentence("12: nothing is due")
    static void p12NothingDue(Check check) {
        HouseLedger x = ledger();
        check.is("no items", x.instal(HOME, 3), NONE);
        charge(x, 0, HOME, 5);
        x.payment(HOME, 5, 0);
        check.is("a paid one", x.instal(HOME, 3), NONE);
        x.reverse(charge(x, 0, HOME, 5), 0);
        check.is("a reversed one", x.instal(HOME, 3), NONE);
        x.entry(0);
        x.row(4, HOME, 5);
        check.is("an open one", x.instal(HOME, 3), NONE);
        charge(x, 0, HOME, 1);
        check.is("a cent", x.instal(HOME, 3), 0);
    }

    @Sentence("12: or there are 10 plans")
    static void p12Full(Check check) {
        HouseLedger x = ledger();
        charge(x, 0, HOME, 5);
        charge(x, 0, OTHER, 9);
        for (int plan = 0; plan < 10; plan++) {
            check.is("plan " + plan, x.instal(HOME, 1), plan);
        }
        check.is("one more", x.instal(HOME, 1), NONE);
        check.is("of another household", x.instal(OTHER, 1), NONE);
        check.is("the last is as it was", x.due(9, 0), 5);
        check.is("plan 10 is none", x.due(10, 0), NONE);
    }

    @Sentence("13: Part m, from 0 on, of a plan")
    static void p13Parts(Check check) {
        HouseLedger x = richLedger(0);
        x.instal(HOME, 1);
        x.instal(HOME, 24);
        check.is("more than 32 bits", x.due(0, 0), 120 * MOST);
        check.is("the first of 24", x.due(1, 0), 5 * MOST);
        check.is("the last of 24", x.due(1, 23), 5 * MOST);
    }

    @Sentence("13: NONE when there is none such")
    static void p13NoPart(Check check) {
        HouseLedger x = ledger();
        check.is("no plans", x.due(0, 0), NONE);
        charge(x, 0, HOME, 5);
        x.instal(HOME, 24);
        x.instal(HOME, 2);
        for (int month : new int[] {-1, 2, 24, Integer.MIN_VALUE, Integer.MAX_VALUE}) {
            check.is("part " + month, x.due(1, month), NONE);
        }
        for (int plan : new int[] {-1, 2, 10, Integer.MIN_VALUE, Integer.MAX_VALUE}) {
            check.is("plan " + plan, x.due(plan, 0), NONE);
        }
        check.is("part 24 of 24", x.due(0, 24), NONE);
    }

    @Sentence("14: false when there are none such")
    static void p14NoHousehold(Check check) {
        HouseLedger x = ledger();
        for (int account : NO_ACCOUNTS) {
            check.no("out of " + account, x.move(account, HOME, 5));
            check.no("into " + account, x.move(HOME, account, 5));
        }
        check.no("the next account, out", x.move(4, HOME, 5));
        check.no("the next account, in", x.move(HOME, 4, 5));
        check.no("cash, out", x.move(CASH, HOME, 5));
        check.no("cash, in", x.move(HOME, CASH, 5));
        check.no("income, out", x.move(INCOME, HOME, 5));
        check.no("income, in", x.move(HOME, INCOME, 5));
        check.yes("nobody has moved by that", x.move(HOME, OTHER, 5));
    }

    @Sentence("14: both are the same")
    static void p14BothTheSame(Check check) {
        HouseLedger x = ledger();
        check.no("HOME", x.move(HOME, HOME, 5));
        check.no("neither of them any", x.move(4, 4, 5));
        check.is("it is there all the month", x.share(HOME, 0, 1), 1);
        check.yes("it has not moved by that", x.move(HOME, OTHER, 5));
    }

    @Sentence("14: the day is not such")
    static void p14NoDay(Check check) {
        HouseLedger x = ledger();
        for (long day : NO_DAYS) {
            check.no("day " + day, x.move(HOME, OTHER, day));
        }
        check.yes("nobody has moved by that", x.move(HOME, OTHER, 3599));
    }

    @Sentence("14: once each .. or one of them has moved")
    static void p14OnceEach(Check check) {
        HouseLedger x = ledger();
        x.account(1);
        x.account(1);
        x.move(HOME, OTHER, 0);
        check.no("both again", x.move(HOME, OTHER, 9));
        check.no("both back", x.move(OTHER, HOME, 9));
        check.no("who moved out, out", x.move(HOME, 4, 9));
        check.no("who moved out, in", x.move(4, HOME, 9));
        check.no("who moved in, out", x.move(OTHER, 4, 9));
        check.no("who moved in, in", x.move(4, OTHER, 9));
        check.is("the day is as it was", x.share(HOME, 0, 0), 0);
        check.yes("two that have not", x.move(4, 5, 9));
    }

    private static void shareIs(Check check, HouseLedger x, int account, int month, long above, long below) {
        String call = "share of " + account + " in " + month;
        check.is(call + ", above", x.share(account, month, 0), above);
        check.is(call + ", below", x.share(account, month, 1), below);
    }

    @Sentence("15: A household's share of a month (0 .. 119)")
    static void p15Months(Check check) {
        HouseLedger x = ledger();
        shareIs(check, x, HOME, 0, 1, 1);
        shareIs(check, x, HOME, 119, 1, 1);
        for (int month : NO_MONTHS) {
            check.is("month " + month, x.share(HOME, month, 0), NONE);
        }
    }

    @Sentence("15: for how many of its 30 days it was there, over 30, in lowest terms")
    static void p15LowestTerms(Check check) {
        int[] above = {0, 1, 1, 1, 2, 1, 1, 7, 4, 3, 1, 11, 2, 13, 7, 1, 8, 17, 3, 19, 2, 7, 11, 23, 4, 5, 13, 9,
            14, 29};
        int[] below = {1, 30, 15, 10, 15, 6, 5, 30, 15, 10, 3, 30, 5, 30, 15, 2, 15, 30, 5, 30, 3, 10, 15, 30, 5, 6,
            15, 10, 15, 30};
        for (int days = 0; days < 30; days++) {
            HouseLedger x = ledger();
            x.move(HOME, OTHER, 60 + days);
            shareIs(check, x, HOME, 2, above[days], below[days]);
            shareIs(check, x, OTHER, 2, below[days] - above[days], below[days]);
        }
    }

    @Sentence("15: all, when it has not moved")
    static void p15NotMoved(Check check) {
        HouseLedger x = ledger();
        x.account(1);
        x.move(HOME, OTHER, 5);
        shareIs(check, x, 4, 0, 1, 1);
        shareIs(check, x, 4, 119, 1, 1);
    }

    @Sentence("15: who moves out is there before the day, who moves in from that day on")
    static void p15OutAndIn(Check check) {
        HouseLedger x = ledger();
        x.move(HOME, OTHER, 60);
        shareIs(check, x, HOME, 1, 1, 1);
        shareIs(check, x, HOME, 2, 0, 1);
        shareIs(check, x, OTHER, 1, 0, 1);
        shareIs(check, x, OTHER, 2, 1, 1);
        HouseLedger y = ledger();
        y.move(HOME, OTHER, 59);
        shareIs(check, y, HOME, 1, 29, 30);
        shareIs(check, y, OTHER, 1, 1, 30);
        HouseLedger z = ledger();
        z.move(HOME, OTHER, 0);
        shareIs(check, z, HOME, 0, 0, 1);
        shareIs(check, z, OTHER, 0, 1, 1);
        shareIs(check, z, HOME, 119, 0, 1);
        HouseLedger last = ledger();
        last.move(HOME, OTHER, 3599);
        shareIs(check, last, HOME, 119, 29, 30);
        shareIs(check, last, OTHER, 119, 1, 30);
        shareIs(check, last, OTHER, 118, 0, 1);
    }

    @Sentence("15: NONE when there are none such")
    static void p15NoneSuch(Check check) {
        HouseLedger x = ledger();
        for (int account : NO_ACCOUNTS) {
            check.is("account " + account, x.share(account, 0, 0), NONE);
        }
        check.is("the next account", x.share(4, 0, 0), NONE);
        check.is("cash", x.share(CASH, 0, 0), NONE);
        check.is("income", x.share(INCOME, 0, 0), NONE);
        for (int part : new int[] {-1, 2, Integer.MIN_VALUE, Integer.MAX_VALUE}) {
            check.is("part " + part, x.share(HOME, 0, part), NONE);
        }
    }

    @Sentence("16: Answers how many were opened before")
    static void p16OpenedBefore(Check check) {
        HouseLedger x = ledger();
        for (int batch = 0; batch < 100; batch++) {
            check.is("batch " + batch, x.batch(), batch);
            x.endBatch(batch % 2 == 0);
        }
    }

    @Sentence("16: NONE when one is open")
    static void p16OneIsOpen(Check check) {
        HouseLedger x = ledger();
        x.batch();
        check.is("again", x.batch(), NONE);
        check.is("and again", x.batch(), NONE);
        x.endBatch(true);
        check.is("the refused do not count", x.batch(), 1);
    }

    @Sentence("17: all stays, or is put back")
    static void p17KeepsOrPutsBack(Check check) {
        for (boolean keep : new boolean[] {true, false}) {
            HouseLedger x = ledger();
            x.batch();
            x.account(1);
            charge(x, 0, 4, 20);
            x.payment(4, 1, 0);
            x.payment(9, 7, 0);
            x.rate(36, 1);
            x.instal(4, 1);
            x.move(4, HOME, 15);
            x.dun(4, 100);
            x.closeMonth(0);
            check.yes("it ends", x.endBatch(keep));
            check.is("account", x.share(4, 0, 1), keep ? 2 : NONE);
            check.is("item", x.item(4, 0), keep ? 19 : NONE);
            check.is("payment", x.opened(1, 0), keep ? 0 : NONE);
            check.is("found", x.found(0), keep ? 7 : NONE);
            check.is("plan", x.due(0, 0), keep ? 19 : NONE);
            check.is("interest", x.interest(4, 40, 0), keep ? 19 : NONE);
            check.is("move", x.share(HOME, 0, 1), keep ? 2 : 1);
            check.is("step", x.dun(4, 113), keep ? 1 : NONE);
            check.is("statement", x.statement(INCOME, 0, 0), keep ? 1 : NONE);
            check.is("tax", x.tax(0), keep ? 3 : 0);
            check.is("month", x.entry(29), keep ? NONE : 0);
        }
    }

    @Sentence("17: all .. is put back (full ones, too)")
    static void p17PutsBackFromFull(Check check) {
        HouseLedger x = ledger();
        charge(x, 0, HOME, 30);
        x.batch();
        fillWithEntries(x, 0, 39);
        for (int i = 0; i < 4; i++) {
            x.account(1);
        }
        for (int i = 0; i < 10; i++) {
            x.instal(HOME, 1);
        }
        closeMonths(x, 120);
        check.is("full of entries", x.entry(0), NONE);
        check.is("full of accounts", x.account(0), NONE);
        check.is("full of plans", x.instal(HOME, 2), NONE);
        x.endBatch(false);
        check.is("the second entry is free", x.entry(0), 1);
        check.is("the fifth account is free", x.account(0), 4);
        check.is("the first plan is free", x.instal(HOME, 2), 0);
        check.is("and is the new one", x.due(0, 0), 15);
        check.yes("month 0 is the next one", x.closeMonth(0));
    }

    @Sentence("17: all .. is put back (to full ones, too)")
    static void p17PutsBackToFull(Check check) {
        HouseLedger x = ledger();
        charge(x, 0, HOME, 30);
        for (int i = 0; i < 20; i++) {
            x.payment(9, 50 + i, 0);
        }
        fillWithEntries(x, 0, 39);
        x.batch();
        x.payment(9, 99, 0);
        x.row(39, HOME, 5);
        x.row(39, HOME, -5);
        check.is("the last entry is posted", x.close(39), 2);
        x.endBatch(false);
        check.is("the last entry is open and has no rows", x.close(39), 0);
        check.is("the last found money", x.found(19), 69);
        check.is("no more of it", x.found(20), NONE);
        check.is("still full", x.entry(0), NONE);
    }

    @Sentence("17: false when none is open")
    static void p17NoneOpen(Check check) {
        HouseLedger x = ledger();
        charge(x, 0, HOME, 5);
        check.no("none was opened, put back", x.endBatch(false));
        check.no("none was opened, keep", x.endBatch(true));
        check.is("all is as it was", x.item(HOME, 0), 5);
        x.batch();
        x.endBatch(true);
        charge(x, 0, HOME, 6);
        check.no("it was ended, put back", x.endBatch(false));
        check.is("what came later stays", x.item(HOME, 1), 6);
    }

    @Sentence("17: (How many were opened is not put back.)")
    static void p17Count(Check check) {
        HouseLedger x = ledger();
        x.batch();
        x.endBatch(false);
        check.is("one was opened", x.batch(), 1);
        x.endBatch(false);
        check.is("two were", x.batch(), 2);
    }
}
