import java.lang.reflect.InvocationTargetException;
import java.lang.reflect.Method;
import java.util.ArrayList;
import java.util.Arrays;
import java.util.List;
import java.util.Map;
import java.util.Random;
import java.util.TreeMap;

/** Drawn runs of 512 calls, the same ones each time, on the ledger and on the model side by side. */
public final class ModelRuns {
    private static final int RUNS = 2000;
    private static final int CALLS = 512;
    // Each call as often as it is to be drawn, so that runs get far before the limits stop them.
    private static final String[] NAMES = String.join(" ", "account ".repeat(2), "entry ".repeat(9),
            "row ".repeat(50), "close ".repeat(6), "balance ".repeat(8), "payment ".repeat(5),
            "item ".repeat(12), "opened ".repeat(8), "dun ".repeat(14), "hardship ".repeat(3),
            "instal ".repeat(4), "due ".repeat(6), "move ".repeat(3), "share ".repeat(6), "closeMonth",
            "reverse ".repeat(3), "interest ".repeat(10), "rate ".repeat(3), "statement ".repeat(8),
            "tax ".repeat(6), "found ".repeat(3), "batch ".repeat(3), "endBatch ".repeat(3)).split(" +");
    private static final Map<String, Method> LEDGER = methods(HouseLedger.class);
    private static final Map<String, Method> MODEL = methods(LedgerModel.class);
    private static final Map<String, Integer> TAKEN = new TreeMap<>();

    private record Call(String name, long... arguments) {
        @Override
        public String toString() {
            return name + Arrays.toString(arguments);
        }
    }

    private final Random random;
    // A run lives in the first so many days, so that its days meet.
    private final int days;
    private final HouseLedger ledger = new HouseLedger();
    private LedgerModel model = new LedgerModel();
    private final List<Call> told = new ArrayList<>();
    private int keptCalls = -1;
    private int batches = 0;
    private int entries = 0;
    private int payment = 0;
    // What the rows of the newest entry lack to be 0 together, and whether they just came to be that.
    private long lacking = 0;
    private boolean isMended = false;

    private ModelRuns(long seed) {
        random = new Random(seed);
        days = seed % 3 == 0 ? 3600 : seed % 3 == 1 ? 300 : 90;
    }

    public static void main(String[] args) {
        int wrong = 0;
        for (int seed = 0; seed < RUNS && wrong < 5; seed++) {
            wrong += new ModelRuns(seed).isAsDue(seed) ? 0 : 1;
        }
        for (String name : NAMES) {
            // A kind of call that is always refused would compare nothing.
            wrong += TAKEN.getOrDefault(name, 0) > RUNS / 2 ? 0 : 1;
        }
        System.out.println("ModelRuns: " + RUNS + " runs of " + CALLS + " calls, " + wrong + " not as due");
        System.out.println("ModelRuns: answers that are not NONE, false or 0: " + TAKEN);
        if (wrong != 0) {
            System.exit(1);
        }
    }

    private static Map<String, Method> methods(Class<?> type) {
        Map<String, Method> methods = new TreeMap<>();
        for (Method method : type.getDeclaredMethods()) {
            methods.put(method.getName(), method);
        }
        return methods;
    }

    private static String answer(Object object, Method method, Call call) {
        Object[] arguments = new Object[method.getParameterCount()];
        for (int i = 0; i < arguments.length; i++) {
            Class<?> type = method.getParameterTypes()[i];
            long argument = call.arguments[i];
            arguments[i] = type == int.class ? (Object) (int) argument
                    : type == boolean.class ? (Object) (argument != 0) : (Object) argument;
        }
        try {
            return String.valueOf(method.invoke(object, arguments));
        } catch (InvocationTargetException e) {
            return "throws." + e.getCause().getClass().getSimpleName();
        } catch (IllegalAccessException e) {
            throw new IllegalStateException(e);
        }
    }

    private boolean isAsDue(long seed) {
        for (int i = 0; i < CALLS; i++) {
            Call call = i < 4 ? new Call("account", i == 3 ? 2 : Math.min(i, 1)) : drawCall();
            String want = answerOfModel(call);
            String got = answer(ledger, LEDGER.get(call.name), call);
            if (!got.equals(want)) {
                System.out.println("run " + seed + ", call " + i + ": " + call + " answered " + got
                        + ", due is " + want);
                return false;
            }
            if (!want.equals("-1") && !want.equals("false") && !want.equals("0") && !want.startsWith("throws")) {
                TAKEN.merge(call.name, 1, Integer::sum);
            }
        }
        return true;
    }

    private Call drawCall() {
        String name = isMended && random.nextInt(5) > 0 ? "close" : NAMES[random.nextInt(NAMES.length)];
        return switch (name) {
            case "account" -> new Call(name, number(3));
            case "closeMonth" -> new Call(name, number(Math.max(1, days / 90)));
            case "entry" -> new Call(name, day());
            case "row" -> drawRow();
            case "close" -> new Call(name, entry());
            case "balance" -> new Call(name, number(6), day());
            case "payment" -> new Call(name, number(4), Math.abs(cents()) / 3, day());
            case "item" -> new Call(name, number(4), number(6));
            case "opened" -> new Call(name, random.nextInt(4) > 0 ? payment : number(entries), number(3));
            case "dun" -> new Call(name, number(4), day());
            case "hardship" -> new Call(name, number(4), day(), random.nextInt(5) == 0 ? any() : day());
            case "instal" -> new Call(name, number(4), number(25));
            case "due" -> new Call(name, number(4), number(25));
            case "move" -> new Call(name, number(6), number(6), day());
            case "share" -> new Call(name, number(6), number(days / 30), number(2));
            case "reverse" -> new Call(name, random.nextBoolean() ? entry() : number(entries), day());
            case "interest" -> new Call(name, number(4), day(), number(3));
            case "rate" -> new Call(name, number(101), number(101));
            case "statement" -> new Call(name, number(5), number(days / 30), number(3));
            case "tax" -> new Call(name, number(days / 30));
            case "found" -> new Call(name, number(3));
            case "batch" -> new Call(name);
            default -> new Call(name, random.nextInt(2));
        };
    }

    private Call drawRow() {
        boolean mends = lacking != 0 && random.nextInt(3) > 0;
        return new Call("row", mends ? entries - 1 : entry(), number(mends ? 4 : 3), mends ? lacking : cents());
    }

    private int number(int bound) {
        return switch (random.nextInt(60)) {
            case 0 -> -1;
            case 1 -> bound;
            case 2 -> random.nextInt();
            default -> random.nextInt(Math.max(1, bound));
        };
    }

    private int entry() {
        return random.nextInt(5) == 0 ? number(entries + 1) : entries - 1;
    }

    private long day() {
        return switch (random.nextInt(60)) {
            case 0 -> any();
            case 1 -> -1;
            case 2 -> 3600;
            default -> random.nextInt(days);
        };
    }

    private long cents() {
        return switch (random.nextInt(40)) {
            case 0 -> any();
            case 1 -> 0;
            case 2 -> random.nextBoolean() ? 100_000_000 : -100_000_000;
            case 3 -> random.nextBoolean() ? 100_000_001 : -100_000_001;
            default -> random.nextInt(500) - (random.nextInt(3) == 0 ? 500 : 0);
        };
    }

    private long any() {
        return switch (random.nextInt(4)) {
            case 0 -> Long.MIN_VALUE;
            case 1 -> Long.MAX_VALUE;
            case 2 -> (1L << 32) + random.nextInt(days);
            default -> random.nextLong();
        };
    }

    private String answerOfModel(Call call) {
        if (call.name.equals("batch")) {
            return openBatch();
        }
        if (call.name.equals("endBatch")) {
            return endBatch(call.arguments[0] != 0);
        }
        told.add(call);
        return tellModel(call);
    }

    private String tellModel(Call call) {
        String answer = answer(model, MODEL.get(call.name), call);
        boolean mayMake = call.name.equals("entry") || call.name.equals("payment") || call.name.equals("reverse");
        isMended = false;
        if (mayMake && !answer.equals("-1")) {
            entries = Integer.parseInt(answer) + 1;
            lacking = 0;
            payment = call.name.equals("payment") ? entries - 1 : payment;
        }
        if (call.name.equals("row") && answer.equals("true") && (int) call.arguments[0] == entries - 1) {
            lacking -= call.arguments[2];
            isMended = lacking == 0;
        }
        return answer;
    }

    private String openBatch() {
        if (keptCalls >= 0) {
            return "-1";
        }
        keptCalls = told.size();
        batches++;
        return String.valueOf(batches - 1);
    }

    private String endBatch(boolean keep) {
        if (keptCalls < 0) {
            return "false";
        }
        if (!keep) {
            told.subList(keptCalls, told.size()).clear();
            model = new LedgerModel();
            entries = 0;
            for (Call call : told) {
                tellModel(call);
            }
        }
        keptCalls = -1;
        return "true";
    }
}
