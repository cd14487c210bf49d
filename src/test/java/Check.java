/** Counts answers that are not as due. */
final class Check {
    private final String place;
    private int wrong = 0;

    Check() {
        this("");
    }

    /** What is printed begins with the place. */
    Check(String place) {
        this.place = place;
    }

    interface Call {
        void make();
    }

    void same(String what, long got, long due) {
        if (got != due) {
            tell(what + " answered " + got + ", due is " + due);
        }
    }

    void same(String what, boolean got, boolean due) {
        same(what, got ? 1 : 0, due ? 1 : 0);
    }

    void sameText(String what, String got, String due) {
        if (!got.equals(due)) {
            tell(what + " answered " + got + ", due is " + due);
        }
    }

    void tell(String fault) {
        wrong++;
        System.out.println(place + fault);
    }

    boolean isClean() {
        return wrong == 0;
    }

    void isThrown(String what, Class<? extends RuntimeException> due, Call call) {
        String got = "nothing";
        try {
            call.make();
        } catch (RuntimeException e) {
            got = e.getClass().getName();
        }
        sameText(what + " throws", got, due.getName());
    }

    void index(String what, Call call) {
        isThrown(what, IndexOutOfBoundsException.class, call);
    }

    void argument(String what, Call call) {
        isThrown(what, IllegalArgumentException.class, call);
    }

    void state(String what, Call call) {
        isThrown(what, IllegalStateException.class, call);
    }

    void end() {
        System.out.println(wrong == 0 ? "all answers are as due" : wrong + " answers are not as due");
        if (wrong != 0) {
            System.exit(1);
        }
    }
}
