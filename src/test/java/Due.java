/** Counts answers that are not the ones that are due. */
final class Due {
    private int wrong;
    private int asked;

    void is(String call, long got, long due) {
        asked++;
        if (got != due) {
            wrong++;
            System.out.println(call + " answered " + got + ", due is " + due);
        }
    }

    void holds(String what, boolean holds) {
        is(what, holds ? 1 : 0, 1);
    }

    /** Ends the program, with 1 if an answer was wrong or none was asked for. */
    void end(String test) {
        System.out.println(test + ": " + asked + " answers, " + wrong + " wrong");
        System.exit(wrong == 0 && asked > 0 ? 0 : 1);
    }
}
