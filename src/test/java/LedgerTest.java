import java.lang.reflect.InvocationTargetException;
import java.lang.reflect.Method;
import java.util.ArrayList;
import java.util.Comparator;
import java.util.List;

/** What the tests begin with: a ledger of four accounts, and short ways to tell it something. */
abstract class LedgerTest {
    static final int NONE = HouseLedger.NONE;
    static final int CASH = 0;
    static final int HOME = 1;
    static final int OTHER = 2;
    static final int INCOME = 3;
    static final long MOST = 100_000_000L;

    // What is no day, the last ones being days only to who looks at their lower 32 bits.
    static final long[] NO_DAYS = {-1, 3600, Integer.MIN_VALUE, Integer.MAX_VALUE, Long.MIN_VALUE, Long.MAX_VALUE,
        1L << 32, (1L << 32) + 40, 40 - (1L << 32)};
    static final long[] NO_CENTS = {0, MOST + 1, -MOST - 1, Long.MIN_VALUE, Long.MAX_VALUE, (1L << 32) + 5,
        -5 - (1L << 32)};
    static final int[] NO_ACCOUNTS = {-1, 8, 9, 256, Integer.MIN_VALUE, Integer.MAX_VALUE};
    // 715827883 times 6, the rows of an entry, is 2 in 32 bits.
    static final int[] NO_ENTRIES = {-1, 40, 41, 240, 715_827_883, Integer.MIN_VALUE, Integer.MAX_VALUE};
    // 143165577 times 30, the days of a month, is 14 in 32 bits.
    static final int[] NO_MONTHS = {-1, 120, 121, 143_165_577, Integer.MIN_VALUE, Integer.MAX_VALUE};

    /** Accounts 0 cash, 1 and 2 households, 3 income. */
    static HouseLedger ledger() {
        HouseLedger x = new HouseLedger();
        x.account(0);
        x.account(1);
        x.account(1);
        x.account(2);
        return x;
    }

    static int post(HouseLedger x, long day, int to, int from, long cents) {
        int entry = x.entry(day);
        x.row(entry, to, cents);
        x.row(entry, from, -cents);
        x.close(entry);
        return entry;
    }

    static int charge(HouseLedger x, long day, int home, long cents) {
        return post(x, day, home, INCOME, cents);
    }

    /** Entries of as many cents as can be, as many as there may be, all of one day. */
    static HouseLedger richLedger(long day) {
        HouseLedger x = ledger();
        for (int entry = 0; entry < 40; entry++) {
            x.entry(day);
            for (int row = 0; row < 3; row++) {
                x.row(entry, HOME, MOST);
                x.row(entry, INCOME, -MOST);
            }
            x.close(entry);
        }
        return x;
    }

    static void fillWithEntries(HouseLedger x, long day, int count) {
        for (int i = 0; i < count; i++) {
            x.entry(day);
        }
    }

    static boolean throwsAtClose(HouseLedger x, int entry) {
        try {
            x.close(entry);
        } catch (IllegalArgumentException e) {
            return true;
        }
        return false;
    }

    static void closeMonths(HouseLedger x, int count) {
        for (int month = 0; month < count; month++) {
            x.closeMonth(month);
        }
    }

    /** Runs each method of a class that is the test of a sentence; each must ask for an answer. */
    static void runSentences(Class<?> type) {
        Check check = new Check(type.getSimpleName());
        List<Method> tests = new ArrayList<>();
        for (Method method : type.getDeclaredMethods()) {
            if (method.isAnnotationPresent(Sentence.class)) {
                tests.add(method);
            }
        }
        tests.sort(Comparator.comparing(Method::getName));
        for (Method test : tests) {
            check.part(test.getAnnotation(Sentence.class).value());
            int before = check.asked();
            run(test, check);
            check.yes("the sentence is asked for", check.asked() > before);
        }
        System.out.println(type.getSimpleName() + ": " + tests.size() + " sentences");
        check.end();
    }

    private static void run(Method test, Check check) {
        try {
            test.invoke(null, check);
        } catch (InvocationTargetException e) {
            check.yes("nothing is thrown, not " + e.getCause(), false);
        } catch (IllegalAccessException e) {
            throw new IllegalStateException(e);
        }
    }
}
