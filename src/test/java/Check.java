/** Counts the answers that are not as due, and ends the test with exit code 1 if there was one. */
final class Check {
    private String sentence = "";
    private boolean told = true;
    private int wrong = 0;
    private int seen = 0;

    /** The words of the document that the answers from here on are held to. */
    void sentence(String words) {
        sentence = words;
        told = false;
    }

    void due(String what, long got, long want) {
        seen++;
        if (got != want) {
            tell(what + " answered " + got + ", due is " + want);
        }
    }

    void due(String what, String got, String want) {
        seen++;
        if (!got.equals(want)) {
            tell(what + "\n  is  " + got + "\n  due " + want);
        }
    }

    void yes(String what, boolean got) {
        due(what, got ? 1 : 0, 1);
    }

    void no(String what, boolean got) {
        due(what, got ? 1 : 0, 0);
    }

    private void tell(String what) {
        wrong++;
        if (!told) {
            told = true;
            System.out.println("NOT KEPT: " + sentence);
        }
        System.out.println(what);
    }

    void finish() {
        sentence("An object is used for at most 512 calls after it has been made");
        yes("at most 512 calls were made, the most were " + Counted.most(), Counted.most() <= Counted.MOST_CALLS);
        System.out.println(wrong == 0 ? seen + " answers are as due" : wrong + " of " + seen + " answers are not as due");
        if (wrong != 0) {
            System.exit(1);
        }
    }
}
