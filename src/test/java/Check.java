/** Counts the answers that are not as due, so that one test tells all of them. */
final class Check {
    private final String name;
    private int asked = 0;
    private int wrong = 0;
    private String inside = "";

    Check(String name) {
        this.name = name;
    }

    void due(String call, long got, long want) {
        asked++;
        if (got != want) {
            wrong++;
            System.out.println(name + ": " + inside + call + " answered " + got + ", due is " + want);
        }
    }

    void holds(String claim, boolean so) {
        due(claim, so ? 1 : 0, 1);
    }

    /** What is asked from now on belongs to this case. */
    void enter(String which) {
        inside = which + ": ";
    }

    void leave() {
        inside = "";
    }

    int asked() {
        return asked;
    }

    int wrong() {
        return wrong;
    }

    void end() {
        System.out.println(name + ": " + asked + " answers, " + wrong + " not as due");
        if (asked == 0 || wrong != 0) {
            System.exit(1);
        }
    }
}
