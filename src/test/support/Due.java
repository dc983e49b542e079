/** Counts answers that are not as due, and ends the run with exit code 1 if there was one. */
final class Due {
    private int asked = 0;
    private int wrong = 0;
    private String part = "";

    void part(String name) {
        part = name;
    }

    void is(String call, long got, long want) {
        asked++;
        if (got == want) return;
        wrong++;
        if (wrong <= 40) System.out.println(part + ": " + call + " answered " + got + ", due is " + want);
    }

    void holds(String what, boolean so) {
        asked++;
        if (so) return;
        wrong++;
        if (wrong <= 40) System.out.println(part + ": " + what);
    }

    boolean anyWrong() {
        return wrong > 0;
    }

    void end() {
        System.out.println(wrong == 0 ? asked + " answers are as due" : wrong + " of " + asked + " answers are not as due");
        if (wrong != 0) System.exit(1);
    }
}
