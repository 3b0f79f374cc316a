/** Counts and prints the answers that are not due; each test ends with it. */
final class Check {
    private int wrong;

    interface Call {
        void make();
    }

    void due(String what, long due, long answer) {
        if (due != answer) {
            tell(what + ": due " + due + ", answered " + answer);
        }
    }

    void due(String what, boolean due, boolean answer) {
        if (due != answer) {
            tell(what + ": due " + due + ", answered " + answer);
        }
    }

    void dueDouble(String what, double due, double answer) {
        if (due != answer) {
            tell(what + ": due " + due + ", answered " + answer);
        }
    }

    void dueText(String what, String due, String answer) {
        if (!due.equals(answer)) {
            tell(what + ": due " + due + ", answered " + answer);
        }
    }

    void throwing(String what, Class<? extends RuntimeException> due, Call call) {
        try {
            call.make();
            tell(what + ": due " + due.getSimpleName() + ", nothing thrown");
        } catch (RuntimeException e) {
            if (e.getClass() != due) {
                tell(what + ": due " + due.getSimpleName() + ", thrown " + e);
            }
        }
    }

    void tell(String text) {
        wrong++;
        System.out.println(text);
    }

    void end() {
        if (wrong > 0) {
            System.out.println(wrong + " wrong");
            System.exit(1);
        }
        System.out.println("ok");
    }
}
