/** Counts answers that are not as due; every test ends through {@link #finish()}. */
final class Check {
    private static int wrong = 0;
    private static int asked = 0;
    private static Sentence sentence = null;

    private Check() {
    }

    interface Call {
        void make();
    }

    /** What is asked from now on is of this sentence of the document. */
    static void of(Sentence of) {
        sentence = of;
    }

    static void due(String what, long got, long want) {
        asked++;
        if (got != want) {
            tell(what + " answered " + got + ", due is " + want);
        }
    }

    static void due(String what, String got, String want) {
        asked++;
        if (!got.equals(want)) {
            tell(what + " answered '" + got + "', due is '" + want + "'");
        }
    }

    static void refused(String what, Class<? extends RuntimeException> kind, Call call) {
        asked++;
        try {
            call.make();
        } catch (RuntimeException e) {
            if (e.getClass() != kind) {
                tell(what + " threw " + e.getClass().getName() + ", due is " + kind.getName());
            }
            return;
        }
        tell(what + " threw nothing, due is " + kind.getName());
    }

    static void illegal(String what, Call call) {
        refused(what, IllegalArgumentException.class, call);
    }

    private static void tell(String text) {
        wrong++;
        if (wrong <= 40) {
            System.out.println(text + (sentence == null ? "" : " [" + sentence.section + ": " + sentence.words + "]"));
        }
    }

    static void finish() {
        System.out.println(wrong == 0 ? asked + " answers as due" : wrong + " of " + asked + " answers not as due");
        if (wrong != 0) {
            System.exit(1);
        }
    }
}
