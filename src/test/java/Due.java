/** Counts the answers that are not the ones that are due, and prints them. */
final class Due {
    private int wrong;
    private int asked;
    private String sentence = "";

    /** The sentence of the document that the answers from here on are due by; it is printed with wrong ones. */
    void sentence(String text) {
        sentence = " (\"" + text + "\")";
    }

    void same(String what, long got, long want) {
        same(what, Long.toString(got), Long.toString(want));
    }

    void same(String what, String got, String want) {
        asked++;
        if (!got.equals(want)) {
            wrong++;
            System.out.println(what + " answered " + got + ", due is " + want + sentence);
        }
    }

    void yes(String what, boolean got) {
        same(what, got ? 1 : 0, 1);
    }

    void no(String what, boolean got) {
        same(what, got ? 1 : 0, 0);
    }

    void finish() {
        System.out.println(wrong == 0 ? asked + " answers are as due"
                : wrong + " of " + asked + " answers are not as due");
        if (wrong != 0) {
            System.exit(1);
        }
    }
}
