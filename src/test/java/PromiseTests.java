/** Each promise of the document by itself: ordinary inputs, its edges, wrong inputs. */
public final class PromiseTests extends LedgerTest {
    private static final Check CHECK = new Check("PromiseTests");

    public static void main(String[] args) {
        promise1NewObject();
        promise2Account();
        promise3Entry();
        promise4Row();
        promise5Close();
        promise6Balance();
        promise7Payment();
        promise7Found();
        promise8Item();
        promise9Opened();
        promise9OpenedByMany();
        promise10Dun();
        promise10DunSteps();
        promise11Hardship();
        promise12Instal();
        promise13Due();
        promise14Move();
        promise15Share();
        promise16Batch();
        promise17EndBatch();
        promise17PutsAllBack();
        promise17PutsBackWhatStood();
        promise17NumbersAnew();
        promise18CloseMonth();
        promise19Reverse();
        promise19Refuses();
        promise20Interest();
        promise20InterestOfMuch();
        promise21Rate();
        promise22Statement();
        promise23Tax();
        promise24Found();
        fullLedger();
        homeAsAccount0();
        CHECK.end();
    }

    private static void promise1NewObject() {
        CHECK.part("promise 1");
        HouseLedger x = new HouseLedger();
        CHECK.is("NONE", HouseLedger.NONE, -1);
        CHECK.is("balance", x.balance(0, 0), 0);
        CHECK.is("close", x.close(0), NONE);
        CHECK.is("found", x.found(0), NONE);
        CHECK.is("due", x.due(0, 0), NONE);
        CHECK.no("endBatch", x.endBatch(true));
        CHECK.is("first account", x.account(1), 0);
        CHECK.is("first entry, of a day in no closed month", x.entry(0), 0);
        CHECK.is("first batch", x.batch(), 0);
        CHECK.yes("month 0 is not closed", x.closeMonth(0));
        HouseLedger y = new HouseLedger();
        CHECK.is("another object has its own accounts", y.account(0), 0);
        CHECK.is("another object has its own months", y.entry(0), 0);
    }

    private static void promise2Account() {
        CHECK.part("promise 2");
        HouseLedger x = new HouseLedger();
        CHECK.is("account(-1)", x.account(-1), NONE);
        CHECK.is("account(3)", x.account(3), NONE);
        CHECK.is("account(MIN)", x.account(Integer.MIN_VALUE), NONE);
        CHECK.is("account(MAX)", x.account(Integer.MAX_VALUE), NONE);
        for (int i = 0; i < 8; i++) {
            CHECK.is("account " + i, x.account(i % 3), i);
        }
        CHECK.is("ninth account", x.account(0), NONE);
        int entry = x.entry(0);
        CHECK.yes("the eighth is there", x.row(entry, 7, 1));
        CHECK.no("a ninth is not", x.row(entry, 8, 1));
    }

    private static void promise3Entry() {
        CHECK.part("promise 3");
        HouseLedger x = ledger();
        CHECK.is("entry(-1)", x.entry(-1), NONE);
        CHECK.is("entry(3600)", x.entry(3600), NONE);
        CHECK.is("entry(2^32)", x.entry(1L << 32), NONE);
        CHECK.is("entry(MIN)", x.entry(Long.MIN_VALUE), NONE);
        CHECK.is("entry(MAX)", x.entry(Long.MAX_VALUE), NONE);
        CHECK.is("entry(0)", x.entry(0), 0);
        CHECK.is("entry(3599)", x.entry(3599), 1);
        closeMonths(x, 2);
        CHECK.is("entry(59), late", x.entry(59), NONE);
        CHECK.is("entry(60), not late", x.entry(60), 2);
        CHECK.yes("it is open", x.row(2, HOME, 5));
        for (int i = 3; i < 40; i++) {
            CHECK.is("entry " + i, x.entry(100), i);
        }
        CHECK.is("entry 41", x.entry(100), NONE);
    }

    private static void promise4Row() {
        CHECK.part("promise 4");
        HouseLedger x = ledger();
        CHECK.no("no entry", x.row(0, HOME, 5));
        x.entry(10);
        CHECK.no("entry -1", x.row(-1, HOME, 5));
        CHECK.no("entry 1", x.row(1, HOME, 5));
        CHECK.no("entry MAX", x.row(Integer.MAX_VALUE, HOME, 5));
        CHECK.no("entry MIN", x.row(Integer.MIN_VALUE, HOME, 5));
        CHECK.no("account -1", x.row(0, -1, 5));
        CHECK.no("account 4", x.row(0, 4, 5));
        CHECK.no("account MAX", x.row(0, Integer.MAX_VALUE, 5));
        CHECK.no("no cents", x.row(0, HOME, 0));
        CHECK.no("too many cents", x.row(0, HOME, 100000001L));
        CHECK.no("too few cents", x.row(0, HOME, -100000001L));
        CHECK.no("cents MAX", x.row(0, HOME, Long.MAX_VALUE));
        CHECK.no("cents MIN", x.row(0, HOME, Long.MIN_VALUE));
        CHECK.yes("most cents", x.row(0, HOME, 100000000L));
        CHECK.yes("least cents", x.row(0, INCOME, -100000000L));
        x.closeMonth(0);
        CHECK.yes("a late open entry takes rows", x.row(0, HOME, 1));
        for (int i = 3; i < 6; i++) {
            CHECK.yes("row " + i, x.row(0, HOME, 1));
        }
        CHECK.no("seventh row", x.row(0, HOME, 1));
        int posted = charge(x, 40, HOME, 7);
        CHECK.no("posted entry", x.row(posted, HOME, 5));
        int paid = x.payment(HOME, 1, 40);
        CHECK.no("payment's entry", x.row(paid, HOME, 5));
        int turned = x.reverse(charge(x, 41, OTHER, 3), 41);
        CHECK.no("reversal", x.row(turned, HOME, 5));
    }

    private static void promise5Close() {
        CHECK.part("promise 5");
        HouseLedger x = ledger();
        CHECK.is("no entry", x.close(0), NONE);
        CHECK.is("entry -1", x.close(-1), NONE);
        CHECK.is("entry MAX", x.close(Integer.MAX_VALUE), NONE);
        x.entry(10);
        x.row(0, HOME, 5);
        CHECK.yes("5 throws", throwsAtClose(x, 0));
        CHECK.is("and posts nothing", x.balance(HOME, 3599), 0);
        CHECK.is("and makes no item", x.item(HOME, 0), NONE);
        CHECK.yes("and leaves it open", x.row(0, INCOME, -6));
        CHECK.yes("-1 throws", throwsAtClose(x, 0));
        x.row(0, OTHER, 1);
        CHECK.is("0 posts", x.close(0), 3);
        CHECK.is("its rows count", x.balance(INCOME, 10), -6);
        CHECK.is("posted before", x.close(0), NONE);
        x.entry(10);
        CHECK.is("no rows at all", x.close(1), 0);
        CHECK.is("posted before, without rows", x.close(1), NONE);
        x.entry(10);
        x.row(2, HOME, 5);
        x.entry(30);
        x.row(3, HOME, 100000000L);
        x.row(3, INCOME, -100000000L);
        x.closeMonth(0);
        CHECK.is("late is looked at before the sum", x.close(2), NONE);
        CHECK.is("the first day that is not late", x.close(3), 2);
    }

    private static void promise6Balance() {
        CHECK.part("promise 6");
        HouseLedger x = ledger();
        charge(x, 20, HOME, 100);
        charge(x, 10, HOME, 30);
        x.entry(5);
        x.row(2, HOME, 7);
        CHECK.is("before all", x.balance(HOME, 9), 0);
        CHECK.is("on a day of one", x.balance(HOME, 10), 30);
        CHECK.is("between", x.balance(HOME, 19), 30);
        CHECK.is("after both, the open one does not count", x.balance(HOME, 20), 130);
        CHECK.is("last day", x.balance(INCOME, 3599), -130);
        CHECK.is("day 3600 is none", x.balance(HOME, 3600), 0);
        CHECK.is("day -1 is none", x.balance(HOME, -1), 0);
        CHECK.is("day 2^32 + 20 is none", x.balance(HOME, (1L << 32) + 20), 0);
        CHECK.is("account 4", x.balance(4, 20), 0);
        CHECK.is("account -1", x.balance(-1, 20), 0);
        CHECK.is("another account", x.balance(OTHER, 20), 0);
        closeMonths(x, 3);
        CHECK.is("a late day", x.balance(HOME, 20), 130);
    }

    private static void promise7Payment() {
        CHECK.part("promise 7");
        HouseLedger x = new HouseLedger();
        x.account(2);
        x.account(1);
        CHECK.is("no cash", x.payment(1, 5, 5), NONE);
        x.account(0);
        x.account(0);
        post(x, 50, 1, 0, 100);
        post(x, 40, 1, 0, 30);
        CHECK.is("0 cents", x.payment(1, 0, 45), NONE);
        CHECK.is("-1 cents", x.payment(1, -1, 45), NONE);
        CHECK.is("too many cents", x.payment(1, 100000001L, 45), NONE);
        CHECK.is("day -1", x.payment(1, 5, -1), NONE);
        CHECK.is("day 3600", x.payment(1, 5, 3600), NONE);
        x.closeMonth(0);
        CHECK.is("late day", x.payment(1, 5, 29), NONE);
        CHECK.is("what is refused is not found", x.found(0), NONE);
        CHECK.is("payment before its items' days", x.payment(1, 40, 30), 2);
        CHECK.is("first item first", x.item(1, 0), 0);
        CHECK.is("then the next", x.item(1, 1), 90);
        CHECK.is("the first cash has more", x.balance(2, 30), 40);
        CHECK.is("the second cash has not", x.balance(3, 3599), 0);
        CHECK.is("the household has less", x.balance(1, 30), -40);
        CHECK.is("cash is row 0", x.statement(2, 1, 0), 20);
        CHECK.is("household is row 1", x.statement(1, 1, 2), 21);
        CHECK.is("it is posted", x.close(2), NONE);
        CHECK.is("more than is due", x.payment(1, 100000000L, 3599), 3);
        CHECK.is("nothing is due then", x.item(1, 1), 0);
        CHECK.is("it is all on the account", x.balance(1, 3599), 130 - 40 - 100000000L);
        post(x, 60, 1, 0, 11);
        CHECK.is("what was too much pays no later item", x.item(1, 2), 11);
    }

    private static void promise7Found() {
        CHECK.part("promise 7, found");
        HouseLedger x = ledger();
        CHECK.is("account 4", x.payment(4, 6, 5), NONE);
        CHECK.is("account -1", x.payment(-1, 7, 5), NONE);
        CHECK.is("cash", x.payment(CASH, 8, 5), NONE);
        CHECK.is("income", x.payment(INCOME, 9, 5), NONE);
        CHECK.is("found 0", x.found(0), 6);
        CHECK.is("found 1", x.found(1), 7);
        CHECK.is("found 2", x.found(2), 8);
        CHECK.is("found 3", x.found(3), 9);
        x.payment(9, 0, 5);
        x.payment(9, 100000001L, 5);
        x.payment(9, 5, -1);
        x.payment(9, 5, 3600);
        x.closeMonth(0);
        x.payment(9, 5, 29);
        CHECK.is("not found when more is amiss", x.found(4), NONE);
        for (int i = 0; i < 40; i++) {
            x.entry(99);
        }
        CHECK.is("40 entries", x.payment(HOME, 5, 99), NONE);
        CHECK.is("40 entries and no household", x.payment(9, 5, 99), NONE);
        CHECK.is("not found with 40 entries", x.found(4), NONE);
        HouseLedger y = new HouseLedger();
        y.payment(0, 5, 5);
        CHECK.is("not found without cash", y.found(0), NONE);
    }

    private static void promise8Item() {
        CHECK.part("promise 8");
        HouseLedger x = ledger();
        x.entry(20);
        x.row(0, HOME, 5);
        x.row(0, OTHER, 6);
        x.row(0, HOME, -4);
        x.row(0, HOME, 7);
        x.row(0, CASH, 3);
        x.row(0, INCOME, -17);
        CHECK.is("no item of an open entry", x.item(HOME, 0), NONE);
        x.close(0);
        charge(x, 20, HOME, 8);
        charge(x, 10, HOME, 9);
        CHECK.is("by days first", x.item(HOME, 0), 9);
        CHECK.is("then by entries", x.item(HOME, 1), 5);
        CHECK.is("then by rows", x.item(HOME, 2), 7);
        CHECK.is("the entry of the same day last", x.item(HOME, 3), 8);
        CHECK.is("no more", x.item(HOME, 4), NONE);
        CHECK.is("k -1", x.item(HOME, -1), NONE);
        CHECK.is("k MAX", x.item(HOME, Integer.MAX_VALUE), NONE);
        CHECK.is("of another household", x.item(OTHER, 0), 6);
        CHECK.is("cash has none", x.item(CASH, 0), NONE);
        CHECK.is("income has none", x.item(INCOME, 0), NONE);
        CHECK.is("account 4", x.item(4, 0), NONE);
        CHECK.is("account -1", x.item(-1, 0), NONE);
        x.payment(HOME, 10, 20);
        CHECK.is("a paid item counts", x.item(HOME, 0), 0);
        CHECK.is("paid in part", x.item(HOME, 1), 4);
        post(x, 20, INCOME, HOME, 50);
        CHECK.is("rows below 0 of no payment pay nothing", x.item(HOME, 1), 4);
    }

    private static void promise9Opened() {
        CHECK.part("promise 9");
        HouseLedger x = ledger();
        charge(x, 20, HOME, 100);
        x.entry(10);
        x.row(1, INCOME, -30);
        x.row(1, HOME, 10);
        x.row(1, HOME, 20);
        x.close(1);
        CHECK.is("first payment", x.payment(HOME, 10, 20), 2);
        CHECK.is("second payment", x.payment(HOME, 50, 20), 3);
        CHECK.is("third payment", x.payment(HOME, 200, 20), 4);
        CHECK.is("fourth payment", x.payment(HOME, 5, 20), 5);
        CHECK.is("first gave to", x.opened(2, 0), 11);
        CHECK.is("and to no other, though it was just enough", x.opened(2, 1), NONE);
        CHECK.is("second skips what is paid", x.opened(3, 0), 12);
        CHECK.is("second then", x.opened(3, 1), 0);
        CHECK.is("second no more", x.opened(3, 2), NONE);
        CHECK.is("third", x.opened(4, 0), 0);
        CHECK.is("third no more", x.opened(4, 1), NONE);
        CHECK.is("fourth gave nothing", x.opened(5, 0), NONE);
        CHECK.is("k -1", x.opened(3, -1), NONE);
        CHECK.is("k MAX", x.opened(3, Integer.MAX_VALUE), NONE);
        CHECK.is("no payment", x.opened(0, 0), NONE);
        CHECK.is("entry 6", x.opened(6, 0), NONE);
        CHECK.is("entry -1", x.opened(-1, 0), NONE);
        charge(x, 1, HOME, 1);
        CHECK.is("an earlier item changes nothing", x.opened(3, 0), 12);
    }

    private static void promise9OpenedByMany() {
        CHECK.part("promise 9, many");
        HouseLedger x = ledger();
        for (int entry = 0; entry < 20; entry++) {
            x.entry(500 - entry);
            for (int row = 0; row < 5; row++) {
                x.row(entry, HOME, 10);
            }
            x.row(entry, INCOME, -50);
            x.close(entry);
        }
        for (int payment = 20; payment < 39; payment++) {
            x.payment(HOME, 25, 600);
        }
        CHECK.is("the last payment", x.payment(HOME, 100000000L, 600), 39);
        CHECK.is("the first of many", x.opened(20, 0), 190);
        CHECK.is("the half one", x.opened(20, 2), 192);
        CHECK.is("the other half", x.opened(21, 0), 192);
        CHECK.is("the rest begins", x.opened(39, 0), 102);
        CHECK.is("the rest ends", x.opened(39, 52), 4);
        CHECK.is("no more", x.opened(39, 53), NONE);
    }

    private static void promise10Dun() {
        CHECK.part("promise 10");
        HouseLedger x = ledger();
        CHECK.is("account 4", x.dun(4, 50), NONE);
        CHECK.is("account -1", x.dun(-1, 50), NONE);
        CHECK.is("cash", x.dun(CASH, 50), NONE);
        CHECK.is("income", x.dun(INCOME, 50), NONE);
        CHECK.is("day -1", x.dun(HOME, -1), NONE);
        CHECK.is("day 3600", x.dun(HOME, 3600), NONE);
        CHECK.is("no items", x.dun(HOME, 3599), 0);
        charge(x, 100, HOME, 50);
        CHECK.is("30 days", x.dun(HOME, 130), 0);
        CHECK.is("31 days", x.dun(HOME, 131), 1);
        CHECK.is("the other household has its own", x.dun(OTHER, 131), 0);
        CHECK.is("an earlier day has no such items", x.dun(HOME, 130), 0);
        CHECK.is("from 0 at once", x.dun(HOME, 132), 1);
        CHECK.is("13 days", x.dun(HOME, 145), 1);
        x.payment(HOME, 49, 145);
        CHECK.is("14 days, paid in part", x.dun(HOME, 146), 2);
        charge(x, 120, HOME, 5);
        x.payment(HOME, 1, 146);
        CHECK.is("a later item is not 31 days old", x.dun(HOME, 150), 0);
        CHECK.is("it is", x.dun(HOME, 151), 1);
        closeMonths(x, 120);
        CHECK.is("late days, too", x.dun(HOME, 165), 2);
    }

    private static void promise10DunSteps() {
        CHECK.part("promise 10, steps");
        HouseLedger x = ledger();
        charge(x, 0, HOME, 50);
        CHECK.is("one", x.dun(HOME, 100), 1);
        CHECK.is("before it was reached", x.dun(HOME, 50), 1);
        CHECK.is("two", x.dun(HOME, 114), 2);
        CHECK.is("counted from the second", x.dun(HOME, 127), 2);
        CHECK.is("three", x.dun(HOME, 128), 3);
        CHECK.is("three at most", x.dun(HOME, 142), 3);
        x.hardship(HOME, 200, 300);
        CHECK.is("in hardship it stays", x.dun(HOME, 250), 3);
        x.payment(HOME, 50, 250);
        CHECK.is("also in hardship it ends", x.dun(HOME, 251), 0);
        charge(x, 100, HOME, 50);
        CHECK.is("and does not begin", x.dun(HOME, 252), 0);
        CHECK.is("it begins behind it", x.dun(HOME, 301), 1);
    }

    private static void promise11Hardship() {
        CHECK.part("promise 11");
        HouseLedger x = ledger();
        CHECK.no("account 4", x.hardship(4, 1, 2));
        CHECK.no("account -1", x.hardship(-1, 1, 2));
        CHECK.no("cash", x.hardship(CASH, 1, 2));
        CHECK.no("income", x.hardship(INCOME, 1, 2));
        charge(x, 0, HOME, 50);
        charge(x, 0, OTHER, 50);
        CHECK.yes("a span of one day", x.hardship(HOME, 100, 100));
        CHECK.is("on it", x.dun(HOME, 100), 0);
        CHECK.is("of another household", x.dun(OTHER, 100), 1);
        CHECK.is("before it", x.dun(HOME, 99), 1);
        CHECK.yes("a span", x.hardship(HOME, 113, 120));
        CHECK.no("turned round", x.hardship(HOME, 2, 1));
        CHECK.is("its first day, the refused one is not kept", x.dun(HOME, 113), 1);
        CHECK.is("its last day", x.dun(HOME, 120), 1);
        CHECK.is("behind it", x.dun(HOME, 121), 2);
        CHECK.yes("all longs", x.hardship(HOME, Long.MIN_VALUE, Long.MAX_VALUE));
        CHECK.is("always", x.dun(HOME, 3599), 2);
        CHECK.no("all longs turned round", x.hardship(HOME, Long.MAX_VALUE, Long.MIN_VALUE));
        CHECK.yes("beyond the days", x.hardship(HOME, 3600, 99999));
        CHECK.is("the latest counts", x.dun(HOME, 3599), 3);
    }

    private static void promise12Instal() {
        CHECK.part("promise 12");
        HouseLedger x = ledger();
        CHECK.is("nothing is due", x.instal(HOME, 3), NONE);
        charge(x, 10, HOME, 100);
        charge(x, 11, HOME, 3);
        CHECK.is("account 4", x.instal(4, 3), NONE);
        CHECK.is("account -1", x.instal(-1, 3), NONE);
        CHECK.is("cash", x.instal(CASH, 3), NONE);
        CHECK.is("income", x.instal(INCOME, 3), NONE);
        CHECK.is("0 parts", x.instal(HOME, 0), NONE);
        CHECK.is("-1 parts", x.instal(HOME, -1), NONE);
        CHECK.is("25 parts", x.instal(HOME, 25), NONE);
        CHECK.is("1 part", x.instal(HOME, 1), 0);
        CHECK.is("24 parts", x.instal(HOME, 24), 1);
        CHECK.is("the 1 part", x.due(0, 0), 103);
        x.payment(HOME, 101, 12);
        CHECK.is("less than a cent each", x.instal(HOME, 3), 2);
        CHECK.is("a plan stays as it was made", x.due(0, 0), 103);
        CHECK.is("a cent", x.due(2, 1), 1);
        CHECK.is("no cent", x.due(2, 2), 0);
        for (int plan = 3; plan < 10; plan++) {
            CHECK.is("plan " + plan, x.instal(HOME, 2), plan);
        }
        CHECK.is("eleventh plan", x.instal(HOME, 2), NONE);
        CHECK.is("its part", x.due(10, 0), NONE);
        HouseLedger y = ledger();
        charge(y, 10, HOME, 5);
        y.payment(HOME, 5, 10);
        CHECK.is("all is paid", y.instal(HOME, 2), NONE);
    }

    private static void promise13Due() {
        CHECK.part("promise 13");
        HouseLedger x = ledger();
        CHECK.is("no plan", x.due(0, 0), NONE);
        charge(x, 10, HOME, 100000000L);
        charge(x, 10, HOME, 100000000L);
        charge(x, 10, HOME, 9);
        x.instal(HOME, 24);
        long sum = 0;
        for (int part = 0; part < 24; part++) {
            CHECK.is("part " + part, x.due(0, part), part < 17 ? 8333334 : 8333333);
            sum += x.due(0, part);
        }
        CHECK.is("together", sum, 200000009L);
        CHECK.is("part 24", x.due(0, 24), NONE);
        CHECK.is("part -1", x.due(0, -1), NONE);
        CHECK.is("part MAX", x.due(0, Integer.MAX_VALUE), NONE);
        CHECK.is("plan 1", x.due(1, 0), NONE);
        CHECK.is("plan -1", x.due(-1, 0), NONE);
        CHECK.is("plan MAX", x.due(Integer.MAX_VALUE, 0), NONE);
    }

    private static void promise14Move() {
        CHECK.part("promise 14");
        HouseLedger x = ledger();
        x.account(1);
        x.account(1);
        CHECK.no("cash", x.move(CASH, HOME, 5));
        CHECK.no("income", x.move(HOME, INCOME, 5));
        CHECK.no("account -1", x.move(-1, HOME, 5));
        CHECK.no("account 6", x.move(HOME, 6, 5));
        CHECK.no("both the same", x.move(HOME, HOME, 5));
        CHECK.no("day -1", x.move(HOME, OTHER, -1));
        CHECK.no("day 3600", x.move(HOME, OTHER, 3600));
        CHECK.no("day 2^32", x.move(HOME, OTHER, 1L << 32));
        CHECK.is("refused, nobody moved", x.share(HOME, 0, 0), 1);
        x.closeMonth(0);
        CHECK.yes("a late day, the first", x.move(HOME, OTHER, 0));
        CHECK.no("again", x.move(HOME, OTHER, 9));
        CHECK.no("who moved out does not move in", x.move(4, HOME, 9));
        CHECK.no("who moved out does not again", x.move(HOME, 4, 9));
        CHECK.no("who moved in does not move out", x.move(OTHER, 4, 9));
        CHECK.no("who moved in does not again", x.move(4, OTHER, 9));
        CHECK.yes("others do, on the last day", x.move(4, 5, 3599));
    }

    private static void shareIs(HouseLedger x, int account, int month, long above, long below) {
        String call = "share of " + account + " in " + month;
        CHECK.is(call + ", above", x.share(account, month, 0), above);
        CHECK.is(call + ", below", x.share(account, month, 1), below);
    }

    private static void promise15Share() {
        CHECK.part("promise 15");
        HouseLedger x = ledger();
        shareIs(x, HOME, 0, 1, 1);
        shareIs(x, HOME, 119, 1, 1);
        CHECK.is("month 120", x.share(HOME, 120, 0), NONE);
        CHECK.is("month -1", x.share(HOME, -1, 0), NONE);
        CHECK.is("part 2", x.share(HOME, 0, 2), NONE);
        CHECK.is("part -1", x.share(HOME, 0, -1), NONE);
        CHECK.is("cash", x.share(CASH, 0, 0), NONE);
        CHECK.is("income", x.share(INCOME, 0, 0), NONE);
        CHECK.is("account 4", x.share(4, 0, 0), NONE);
        CHECK.is("account -1", x.share(-1, 0, 0), NONE);
        x.move(HOME, OTHER, 64);
        shareIs(x, HOME, 1, 1, 1);
        shareIs(x, OTHER, 1, 0, 1);
        shareIs(x, HOME, 2, 2, 15);
        shareIs(x, OTHER, 2, 13, 15);
        shareIs(x, HOME, 3, 0, 1);
        shareIs(x, OTHER, 3, 1, 1);
        x.account(1);
        x.account(1);
        x.move(4, 5, 90);
        shareIs(x, 4, 2, 1, 1);
        shareIs(x, 5, 2, 0, 1);
        shareIs(x, 4, 3, 0, 1);
        shareIs(x, 5, 3, 1, 1);
        HouseLedger y = ledger();
        y.move(HOME, OTHER, 0);
        shareIs(y, HOME, 0, 0, 1);
        shareIs(y, OTHER, 0, 1, 1);
        HouseLedger z = ledger();
        z.move(HOME, OTHER, 3599);
        shareIs(z, HOME, 119, 29, 30);
        shareIs(z, OTHER, 119, 1, 30);
    }

    private static void promise16Batch() {
        CHECK.part("promise 16");
        HouseLedger x = ledger();
        CHECK.is("first", x.batch(), 0);
        CHECK.is("one is open", x.batch(), NONE);
        x.endBatch(true);
        CHECK.is("second", x.batch(), 1);
        x.endBatch(false);
        CHECK.is("third, none is put back", x.batch(), 2);
        CHECK.is("one is open", x.batch(), NONE);
    }

    private static void promise17EndBatch() {
        CHECK.part("promise 17");
        HouseLedger x = ledger();
        CHECK.no("none open, keep", x.endBatch(true));
        CHECK.no("none open, put back", x.endBatch(false));
        x.batch();
        charge(x, 5, HOME, 50);
        CHECK.yes("keep", x.endBatch(true));
        CHECK.is("it is kept", x.item(HOME, 0), 50);
        CHECK.no("ended", x.endBatch(false));
        CHECK.is("still kept", x.item(HOME, 0), 50);
        x.batch();
        charge(x, 5, HOME, 60);
        CHECK.is("a refused batch", x.batch(), NONE);
        CHECK.yes("put back", x.endBatch(false));
        CHECK.is("as when it was opened", x.item(HOME, 1), NONE);
        CHECK.no("none is open then", x.endBatch(false));
    }

    private static void promise17PutsAllBack() {
        CHECK.part("promise 17, new things");
        HouseLedger x = ledger();
        charge(x, 0, HOME, 50);
        x.entry(20);
        x.row(1, CASH, 5);
        x.batch();
        x.account(1);
        x.row(1, 4, -5);
        x.close(1);
        x.payment(HOME, 20, 20);
        x.payment(9, 77, 20);
        x.instal(HOME, 2);
        x.move(HOME, OTHER, 15);
        x.rate(1, 1);
        x.hardship(OTHER, 0, 3599);
        x.dun(HOME, 40);
        x.closeMonth(0);
        x.reverse(charge(x, 45, OTHER, 9), 45);
        x.endBatch(false);
        CHECK.is("closed month", x.entry(29), 2);
        CHECK.is("account", x.balance(4, 3599), 0);
        CHECK.is("its number is free", x.account(2), 4);
        CHECK.is("posted entry", x.balance(CASH, 3599), 0);
        CHECK.yes("open with one row", throwsAtClose(x, 1));
        CHECK.yes("so it takes another", x.row(1, INCOME, -5));
        CHECK.is("and has two", x.close(1), 2);
        CHECK.is("payment", x.item(HOME, 0), 50);
        CHECK.is("what it gave to", x.opened(2, 0), NONE);
        CHECK.is("found money", x.found(0), NONE);
        CHECK.is("plan", x.due(0, 0), NONE);
        shareIs(x, HOME, 0, 1, 1);
        CHECK.yes("nobody moved", x.move(HOME, OTHER, 15));
        CHECK.is("rate", x.interest(HOME, 3599, 0), 0);
        charge(x, 0, OTHER, 1);
        CHECK.is("hardship", x.dun(OTHER, 100), 1);
        CHECK.is("step", x.dun(HOME, 41), 1);
    }

    private static void promise17PutsBackWhatStood() {
        CHECK.part("promise 17, old things");
        HouseLedger x = ledger();
        charge(x, 0, HOME, 50);
        charge(x, 0, OTHER, 70);
        int payment = x.payment(HOME, 20, 20);
        x.payment(9, 77, 20);
        x.instal(HOME, 2);
        x.rate(1, 1);
        x.hardship(HOME, 60, 70);
        x.dun(HOME, 40);
        x.closeMonth(0);
        x.batch();
        x.payment(HOME, 30, 40);
        x.reverse(1, 40);
        x.rate(50, 3);
        x.hardship(HOME, 0, 3599);
        x.dun(HOME, 54);
        x.closeMonth(1);
        x.endBatch(false);
        CHECK.is("item", x.item(HOME, 0), 30);
        CHECK.is("item of the reversed", x.item(OTHER, 0), 70);
        CHECK.is("what the payment gave to", x.opened(payment, 0), 0);
        CHECK.is("found money", x.found(0), 77);
        CHECK.is("plan", x.due(0, 1), 15);
        CHECK.is("rate", x.interest(HOME, 31, 1), 12);
        CHECK.is("hardship", x.dun(HOME, 60), 1);
        CHECK.is("the day of the step", x.dun(HOME, 54), 2);
        CHECK.is("late", x.entry(29), NONE);
        CHECK.is("not late", x.entry(30), 3);
        CHECK.is("not reversed", x.reverse(1, 0), 4);
    }

    private static void promise17NumbersAnew() {
        CHECK.part("promise 17, numbers told anew");
        HouseLedger x = ledger();
        charge(x, 50, HOME, 10);
        charge(x, 10, HOME, 20);
        x.dun(HOME, 90);
        x.batch();
        charge(x, 5, HOME, 30);
        CHECK.is("an older item", x.item(HOME, 0), 30);
        CHECK.is("payment", x.payment(HOME, 55, 60), 3);
        CHECK.is("plan", x.instal(HOME, 1), 0);
        CHECK.is("step", x.dun(HOME, 104), 2);
        x.endBatch(false);
        CHECK.is("oldest item", x.item(HOME, 0), 20);
        CHECK.is("next item", x.item(HOME, 1), 10);
        CHECK.is("last item", x.item(HOME, 2), NONE);
        CHECK.is("plan of as many as before", x.instal(HOME, 2), 0);
        CHECK.is("its part", x.due(0, 0), 15);
        CHECK.is("the step's day", x.dun(HOME, 104), 2);
        CHECK.is("entry", charge(x, 70, OTHER, 40), 2);
        CHECK.is("payment by another", x.payment(OTHER, 5, 60), 3);
        CHECK.is("gave to its own", x.opened(3, 0), 20);
        CHECK.is("and to no other", x.opened(3, 1), NONE);
    }

    private static void promise18CloseMonth() {
        CHECK.part("promise 18");
        HouseLedger x = ledger();
        CHECK.no("month 1", x.closeMonth(1));
        CHECK.no("month -1", x.closeMonth(-1));
        CHECK.no("month MAX", x.closeMonth(Integer.MAX_VALUE));
        CHECK.yes("month 0", x.closeMonth(0));
        CHECK.no("month 0 again", x.closeMonth(0));
        CHECK.no("month 2", x.closeMonth(2));
        for (int month = 1; month < 120; month++) {
            CHECK.yes("month " + month, x.closeMonth(month));
        }
        CHECK.is("every day is late", x.entry(3599), NONE);
        CHECK.no("month 120", x.closeMonth(120));
        CHECK.no("month 119 again", x.closeMonth(119));
    }

    private static void promise19Reverse() {
        CHECK.part("promise 19");
        HouseLedger x = ledger();
        x.entry(40);
        x.row(0, HOME, 10);
        x.row(0, CASH, 7);
        x.row(0, INCOME, -20);
        x.row(0, OTHER, -2);
        x.row(0, OTHER, 5);
        x.close(0);
        charge(x, 41, OTHER, 6);
        closeMonths(x, 5);
        CHECK.is("on a late day, before its own", x.reverse(0, 10), 2);
        CHECK.is("its item", x.item(HOME, 0), 0);
        CHECK.is("no more items", x.item(HOME, 1), NONE);
        CHECK.is("its other item", x.item(OTHER, 0), 0);
        CHECK.is("an item of another entry", x.item(OTHER, 1), 6);
        CHECK.is("no items of the reversal", x.item(OTHER, 2), NONE);
        CHECK.is("turned round on its day", x.balance(INCOME, 10), 20);
        CHECK.is("both stay posted", x.balance(HOME, 3599), 0);
        CHECK.is("the order of its rows", x.statement(OTHER, 0, 0), 23);
        CHECK.is("a row of it", x.statement(HOME, 0, 0), 20);
        CHECK.is("the reversed one's row", x.statement(HOME, 1, 0), 0);
        CHECK.is("the reversal is posted", x.close(2), NONE);
        CHECK.is("reversed before", x.reverse(0, 10), NONE);
        CHECK.is("a reversal", x.reverse(2, 10), NONE);
        CHECK.is("a reversed item takes no payment", x.payment(OTHER, 6, 150), 3);
        CHECK.is("the other does", x.opened(3, 0), 10);
        x.entry(150);
        x.close(4);
        CHECK.is("an entry without rows", x.reverse(4, 3599), 5);
        CHECK.is("not twice", x.reverse(4, 3599), NONE);
        CHECK.is("nor its reversal", x.reverse(5, 3599), NONE);
    }

    private static void promise19Refuses() {
        CHECK.part("promise 19, refusals");
        HouseLedger x = ledger();
        charge(x, 40, HOME, 10);
        CHECK.is("entry 1", x.reverse(1, 40), NONE);
        CHECK.is("entry -1", x.reverse(-1, 40), NONE);
        CHECK.is("entry MAX", x.reverse(Integer.MAX_VALUE, 40), NONE);
        CHECK.is("day -1", x.reverse(0, -1), NONE);
        CHECK.is("day 3600", x.reverse(0, 3600), NONE);
        x.entry(40);
        CHECK.is("an open entry", x.reverse(1, 40), NONE);
        CHECK.is("a payment", x.payment(HOME, 1, 40), 2);
        CHECK.is("a payment's", x.reverse(2, 40), NONE);
        CHECK.is("paid in part", x.reverse(0, 40), NONE);
        x.payment(HOME, 9, 40);
        CHECK.is("paid whole", x.reverse(0, 40), NONE);
        CHECK.is("still as it was", x.balance(HOME, 40), 0);
        charge(x, 40, OTHER, 5);
        for (int i = 5; i < 40; i++) {
            x.entry(40);
        }
        CHECK.is("40 entries", x.reverse(4, 40), NONE);
        CHECK.is("its item is due", x.item(OTHER, 0), 5);
        HouseLedger y = ledger();
        charge(y, 40, HOME, 10);
        for (int i = 1; i < 39; i++) {
            y.entry(40);
        }
        CHECK.is("the last number", y.reverse(0, 40), 39);
    }

    private static void interestIs(HouseLedger x, long day, long above, long below, long whole) {
        String call = "interest on " + day;
        CHECK.is(call + ", above", x.interest(HOME, day, 0), above);
        CHECK.is(call + ", below", x.interest(HOME, day, 1), below);
        CHECK.is(call + ", whole", x.interest(HOME, day, 2), whole);
    }

    private static void promise20Interest() {
        CHECK.part("promise 20");
        HouseLedger x = ledger();
        charge(x, 100, HOME, 90);
        interestIs(x, 500, 0, 1, 0);
        x.rate(2, 1);
        interestIs(x, 99, 0, 1, 0);
        interestIs(x, 130, 0, 1, 0);
        interestIs(x, 131, 1, 2, 1);
        interestIs(x, 132, 1, 1, 1);
        interestIs(x, 133, 3, 2, 2);
        x.rate(2, 100);
        interestIs(x, 229, 99, 200, 0);
        interestIs(x, 230, 1, 2, 1);
        x.payment(HOME, 60, 230);
        interestIs(x, 230, 1, 6, 0);
        charge(x, 110, HOME, 7);
        interestIs(x, 230, 121, 600, 0);
        x.payment(HOME, 100, 230);
        interestIs(x, 230, 0, 1, 0);
        CHECK.is("part -1", x.interest(HOME, 230, -1), NONE);
        CHECK.is("part 3", x.interest(HOME, 230, 3), NONE);
        CHECK.is("day -1", x.interest(HOME, -1, 0), NONE);
        CHECK.is("day 3600", x.interest(HOME, 3600, 0), NONE);
        CHECK.is("cash", x.interest(CASH, 230, 0), NONE);
        CHECK.is("income", x.interest(INCOME, 230, 0), NONE);
        CHECK.is("account 4", x.interest(4, 230, 0), NONE);
        CHECK.is("account -1", x.interest(-1, 230, 0), NONE);
    }

    private static void promise20InterestOfMuch() {
        CHECK.part("promise 20, much");
        HouseLedger x = richLedger(0);
        x.rate(100, 1);
        long centDays = 120L * 100000000L * 3569L;
        CHECK.is("whole", x.interest(HOME, 3599, 2), (centDays * 100 + 180) / 360);
        CHECK.is("above", x.interest(HOME, 3599, 0), 3569L * 10000000000L);
        CHECK.is("below", x.interest(HOME, 3599, 1), 3);
        x.rate(97, 89);
        CHECK.is("below", x.interest(HOME, 3599, 1), 3L * 89);
        CHECK.is("above", x.interest(HOME, 3599, 0), centDays / 120 * 97);
    }

    private static void promise21Rate() {
        CHECK.part("promise 21");
        HouseLedger x = ledger();
        charge(x, 0, HOME, 360);
        CHECK.is("0 over 1 at first", x.interest(HOME, 31, 0), 0);
        CHECK.yes("100 over 100", x.rate(100, 100));
        CHECK.is("it counts", x.interest(HOME, 31, 0), 1);
        CHECK.no("-1 over 1", x.rate(-1, 1));
        CHECK.no("101 over 1", x.rate(101, 1));
        CHECK.no("1 over 0", x.rate(1, 0));
        CHECK.no("1 over -1", x.rate(1, -1));
        CHECK.no("1 over 101", x.rate(1, 101));
        CHECK.no("2^32 over 1", x.rate(1L << 32, 1));
        CHECK.no("1 over 2^32 + 1", x.rate(1, (1L << 32) + 1));
        CHECK.is("the refused do not", x.interest(HOME, 31, 0), 1);
        CHECK.yes("1 over 7", x.rate(1, 7));
        CHECK.is("the latest counts", x.interest(HOME, 31, 1), 7);
        CHECK.yes("0 over 100", x.rate(0, 100));
        CHECK.is("none", x.interest(HOME, 31, 1), 1);
        CHECK.yes("100 over 1", x.rate(100, 1));
        CHECK.is("the most", x.interest(HOME, 31, 0), 100);
    }

    private static void promise22Statement() {
        CHECK.part("promise 22");
        HouseLedger x = ledger();
        charge(x, 59, HOME, 10);
        x.entry(30);
        x.row(1, INCOME, -3);
        x.row(1, HOME, 4);
        x.row(1, HOME, -1);
        x.close(1);
        x.entry(31);
        x.row(2, HOME, 9);
        charge(x, 29, HOME, 11);
        charge(x, 60, HOME, 12);
        x.payment(HOME, 5, 45);
        CHECK.is("by numbers, not by days", x.statement(HOME, 1, 0), 0);
        CHECK.is("then rows", x.statement(HOME, 1, 1), 11);
        CHECK.is("below 0, too", x.statement(HOME, 1, 2), 12);
        CHECK.is("a payment's", x.statement(HOME, 1, 3), 51);
        CHECK.is("no more, none of the open one", x.statement(HOME, 1, 4), NONE);
        CHECK.is("the month before", x.statement(HOME, 0, 0), 30);
        CHECK.is("only that", x.statement(HOME, 0, 1), NONE);
        CHECK.is("the month behind", x.statement(HOME, 2, 0), 40);
        CHECK.is("cash", x.statement(CASH, 1, 0), 50);
        CHECK.is("income", x.statement(INCOME, 1, 1), 10);
        CHECK.is("k -1", x.statement(HOME, 1, -1), NONE);
        CHECK.is("k MAX", x.statement(HOME, 1, Integer.MAX_VALUE), NONE);
        CHECK.is("month -1", x.statement(HOME, -1, 0), NONE);
        CHECK.is("month 120", x.statement(HOME, 120, 0), NONE);
        CHECK.is("account 4", x.statement(4, 1, 0), NONE);
        CHECK.is("account -1", x.statement(-1, 1, 0), NONE);
        CHECK.is("account 0 has no rows that were never told", x.statement(CASH, 0, 0), NONE);
    }

    private static void promise23Tax() {
        CHECK.part("promise 23");
        HouseLedger x = ledger();
        x.account(2);
        charge(x, 30, HOME, 100);
        charge(x, 59, HOME, 5);
        CHECK.is("down", x.tax(1), 19);
        post(x, 40, CASH, 4, 1);
        CHECK.is("of all income accounts together", x.tax(1), 20);
        x.entry(40);
        x.row(3, CASH, 900);
        x.row(3, INCOME, -900);
        CHECK.is("not of open entries", x.tax(1), 20);
        CHECK.is("the month before", x.tax(0), 0);
        CHECK.is("the month behind", x.tax(2), 0);
        post(x, 40, 4, CASH, 50);
        CHECK.is("one has more", x.tax(1), 10);
        post(x, 40, 4, CASH, 56);
        CHECK.is("as much", x.tax(1), 0);
        post(x, 40, 4, CASH, 1000);
        CHECK.is("they have more", x.tax(1), 0);
        CHECK.is("month -1", x.tax(-1), 0);
        CHECK.is("month 120", x.tax(120), 0);
        CHECK.is("month MAX", x.tax(Integer.MAX_VALUE), 0);
        HouseLedger y = ledger();
        charge(y, 10, HOME, 100000000L);
        y.reverse(0, 40);
        CHECK.is("the reversed one's month", y.tax(0), 19000000L);
        CHECK.is("the reversal's month", y.tax(1), 0);
        for (int i = 0; i < 36; i++) {
            charge(y, 3599, HOME, 100000000L);
        }
        CHECK.is("much, in the last month", y.tax(119), 36L * 19000000L);
    }

    private static void promise24Found() {
        CHECK.part("promise 24");
        HouseLedger x = ledger();
        CHECK.is("none yet", x.found(0), NONE);
        for (int i = 0; i < 25; i++) {
            CHECK.is("payment " + i, x.payment(7, 100 + i, 5), NONE);
        }
        for (int k = 0; k < 20; k++) {
            CHECK.is("found " + k, x.found(k), 100 + k);
        }
        CHECK.is("found 20", x.found(20), NONE);
        CHECK.is("found -1", x.found(-1), NONE);
        CHECK.is("found MAX", x.found(Integer.MAX_VALUE), NONE);
        CHECK.is("found MIN", x.found(Integer.MIN_VALUE), NONE);
        CHECK.is("no entry came of it", x.entry(5), 0);
        HouseLedger y = ledger();
        y.payment(9, 100000000L, 5);
        CHECK.is("the most cents", y.found(0), 100000000L);
    }

    private static void fullLedger() {
        CHECK.part("all limits reached");
        HouseLedger x = ledger();
        for (int i = 4; i < 8; i++) {
            x.account(2);
        }
        for (int entry = 0; entry < 39; entry++) {
            x.entry(3510 + entry);
            for (int row = 0; row < 5; row++) {
                x.row(entry, HOME, 2);
            }
            x.row(entry, 7, -10);
            x.close(entry);
        }
        x.rate(36, 1);
        CHECK.is("payment", x.payment(HOME, 389, 3599), 39);
        CHECK.is("gifts", x.opened(39, 194), 384);
        CHECK.is("no more gifts", x.opened(39, 195), NONE);
        CHECK.is("last item", x.item(HOME, 194), 1);
        CHECK.is("no more items", x.item(HOME, 195), NONE);
        CHECK.is("balance", x.balance(HOME, 3599), 1);
        CHECK.is("tax of the last income account", x.tax(118), 9 * 10 * 19 / 100);
        CHECK.is("statement", x.statement(7, 118, 8), 385);
        CHECK.is("end of the statement", x.statement(7, 118, 9), NONE);
        CHECK.is("interest", x.interest(HOME, 3599, 0), 21);
        CHECK.is("dun", x.dun(HOME, 3599), 1);
        CHECK.is("instal", x.instal(HOME, 24), 0);
        CHECK.is("reverse", x.reverse(38, 3599), NONE);
        CHECK.is("reverse entry 40", x.reverse(40, 3599), NONE);
        CHECK.is("close entry 40", x.close(40), NONE);
        CHECK.no("row of entry 40", x.row(40, HOME, 1));
        CHECK.is("batch", x.batch(), 0);
        CHECK.yes("put back", x.endBatch(false));
        CHECK.is("last item as before", x.item(HOME, 194), 1);
    }

    private static void homeAsAccount0() {
        CHECK.part("other orders of accounts");
        HouseLedger x = new HouseLedger();
        x.account(1);
        x.account(2);
        post(x, 5, 0, 1, 10);
        CHECK.is("the item", x.item(0, 0), 10);
        CHECK.is("rows that were not told are no items", x.item(0, 1), NONE);
        CHECK.is("nor in a statement", x.statement(0, 0, 1), NONE);
        HouseLedger y = new HouseLedger();
        y.account(2);
        y.account(1);
        post(y, 5, 1, 0, 100);
        CHECK.is("tax of income account 0", y.tax(0), 19);
    }
}
