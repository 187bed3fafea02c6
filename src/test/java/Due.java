/** Counts the answers that are not as due and prints the first of them with the words of the document that ask. */
final class Due {
    private static final int MOST_PRINTED = 200;

    private final String test;
    private String asked = "";
    private int wrong;

    Due(String test) {
        this.test = test;
    }

    /**
     * The answers from here on are asked for by these words of a promise. Two dots stand for words left out, and what
     * stands in brackets is said here to tell tests of the same words apart.
     */
    void promise(String number, String words) {
        asked = ", promise " + number + " (" + words + ")";
    }

    /** As promise does, for words of "Terms" and the promises that rest on them. */
    void terms(String promises, String words) {
        asked = ", terms for promise " + promises + " (" + words + ")";
    }

    void is(String call, long got, long want) {
        if (got != want) {
            tell(call + " answered " + got + ", due is " + want);
        }
    }

    void is(String call, boolean got, boolean want) {
        is(call, got ? 1 : 0, want ? 1 : 0);
    }

    private void tell(String fault) {
        wrong++;
        if (wrong <= MOST_PRINTED) {
            System.out.println(test + asked + ": " + fault);
        }
    }

    void end() {
        System.out.println(test + ": " + (wrong == 0 ? "all answers are as due" : wrong + " answers are not as due"));
        if (wrong != 0) {
            System.exit(1);
        }
    }
}
