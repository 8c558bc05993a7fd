/** Counts the answers that are not the ones that are due, and tells them. */
final class Checks {
    private final String title;
    private int wrong = 0;
    private int made = 0;

    Checks(String title) {
        this.title = title;
    }

    void due(String call, long want, long got) {
        made++;
        if (got != want) {
            wrong++;
            System.out.println(title + ": " + call + " answered " + got + ", due is " + want);
        }
    }

    void holds(String what, boolean isSo) {
        made++;
        if (!isSo) {
            wrong++;
            System.out.println(title + ": does not hold: " + what);
        }
    }

    void end() {
        System.out.println(title + ": " + made + " checks, " + wrong + " wrong");
        if (wrong > 0 || made == 0) {
            System.exit(1);
        }
    }
}
