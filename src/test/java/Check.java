/** Counts answers that are not as due; each test makes one and closes it at its end. */
final class Check {
    private int asked = 0;
    private int wrong = 0;

    void same(String what, long got, long due) {
        tell(got == due, what, String.valueOf(got), String.valueOf(due));
    }

    void same(String what, boolean got, boolean due) {
        tell(got == due, what, String.valueOf(got), String.valueOf(due));
    }

    void sameDouble(String what, double got, double due) {
        tell(Double.compare(got, due) == 0, what, String.valueOf(got), String.valueOf(due));
    }

    void sameText(String what, String got, String due) {
        tell(got.equals(due), what, got, due);
    }

    /** The call throws just this exception and changes nothing of what can be asked. */
    void refuses(String what, MapCarrier x, Class<? extends RuntimeException> due, Runnable call) {
        String before = Answers.all(x);
        String got = "nothing";
        try {
            call.run();
        } catch (RuntimeException e) {
            got = e.getClass().getSimpleName();
        }
        sameText(what + " throws", got, due.getSimpleName());
        sameText(what + " changes nothing", Answers.all(x), before);
    }

    /** Prints the count, and ends the program with 1 if an answer was wrong. */
    void close() {
        System.out.println(asked + " answers, " + wrong + " not as due");
        if (wrong > 0) {
            System.exit(1);
        }
    }

    private void tell(boolean right, String what, String got, String due) {
        asked++;
        if (!right) {
            wrong++;
            System.out.println(what + ": answered " + got + ", due is " + due);
        }
    }
}
