/** Counts the answers that are not the ones due, and tells which sentence of the document they break. */
final class Check {
    private int wrong = 0;
    private int seen = 0;
    private int sentences = 0;
    private String sentence = "";

    /** A test of its own for one sentence, whose words are the document's. */
    void sentence(String words, Runnable test) {
        int before = seen;
        sentence = words;
        sentences++;
        try {
            test.run();
        } catch (RuntimeException e) {
            tell("a call threw " + e);
        }
        if (seen == before) {
            tell("the test has asked for nothing");
        }
        sentence = "";
    }

    void same(String what, long got, long due) {
        seen++;
        if (got != due) {
            tell(what + " is " + got + ", due is " + due);
        }
    }

    void same(String what, String got, String due) {
        seen++;
        if (!got.equals(due)) {
            tell(what + " is\n    " + got + "\n  due is\n    " + due);
        }
    }

    void outOfBounds(String what, Runnable call) {
        throwing(what, IndexOutOfBoundsException.class, call);
    }

    void throwing(String what, Class<? extends RuntimeException> due, Runnable call) {
        seen++;
        String got = "nothing";
        try {
            call.run();
        } catch (RuntimeException e) {
            got = e.getClass().getName();
        }
        if (!got.equals(due.getName())) {
            tell(what + " throws " + got + ", due is " + due.getName());
        }
    }

    int wrongs() {
        return wrong;
    }

    void finish() {
        System.out.println((sentences == 0 ? "" : sentences + " sentences, ") + seen + " answers, " + wrong + " wrong");
        if (wrong != 0 || seen == 0) {
            System.exit(1);
        }
    }

    private void tell(String what) {
        wrong++;
        System.out.println((sentence.isEmpty() ? "" : "\"" + sentence + "\": ") + what);
    }
}
