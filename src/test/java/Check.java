/** Counts the answers that are not the ones due. */
final class Check {
    private int wrong = 0;
    private int seen = 0;

    void same(String what, long got, long due) {
        seen++;
        if (got != due) {
            wrong++;
            System.out.println(what + " is " + got + ", due is " + due);
        }
    }

    void outOfBounds(String what, Runnable call) {
        throwing(what, IndexOutOfBoundsException.class, call);
    }

    void throwing(String what, Class<? extends RuntimeException> due, Runnable call) {
        seen++;
        String got = "nothing";
        try {
            call.run();
        } catch (RuntimeException e) {
            got = e.getClass().getName();
        }
        if (!got.equals(due.getName())) {
            wrong++;
            System.out.println(what + " throws " + got + ", due is " + due.getName());
        }
    }

    int wrongs() {
        return wrong;
    }

    void finish() {
        System.out.println(seen + " answers, " + wrong + " wrong");
        if (wrong != 0 || seen == 0) {
            System.exit(1);
        }
    }
}
