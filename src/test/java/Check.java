/** Counts answers that are not as due, and tells them; one object for each test program. */
final class Check {
    private final String title;
    private String part = "";
    private int asked = 0;
    private int wrong = 0;

    Check(String title) {
        this.title = title;
    }

    void part(String name) {
        part = name;
    }

    int asked() {
        return asked;
    }

    void is(String call, long got, long want) {
        asked++;
        if (got != want) {
            wrong++;
            System.out.println(title + ", " + part + ": " + call + " answered " + got + ", due is " + want);
        }
    }

    void yes(String call, boolean got) {
        is(call, got ? 1 : 0, 1);
    }

    void no(String call, boolean got) {
        is(call, got ? 1 : 0, 0);
    }

    void end() {
        System.out.println(title + ": " + asked + " answers, " + wrong + " not as due");
        if (wrong != 0) {
            System.exit(1);
        }
    }
}
