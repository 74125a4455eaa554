/** Compares answers with what is due, prints those that differ, and ends the test. */
final class Check {
    private int wrong;
    private int looked;
    private int sentences;

    void due(String call, long got, long want) {
        looked++;
        if (got != want) {
            wrong++;
            System.out.println(call + " answered " + got + ", due is " + want);
        }
    }

    void due(String call, boolean got, boolean want) {
        due(call, got ? 1 : 0, want ? 1 : 0);
    }

    void due(String call, String got, String want) {
        looked++;
        if (!got.equals(want)) {
            wrong++;
            System.out.println(call + ":\n  " + got + "\n  due is\n  " + want);
        }
    }

    /** A test of one sentence of the document: a throw breaks this one alone, and the others still run. */
    void sentence(String words, Runnable test) {
        sentences++;
        int before = wrong;
        try {
            test.run();
        } catch (RuntimeException e) {
            wrong++;
            System.out.println("a call threw " + e);
        }
        if (wrong != before) {
            System.out.println("BROKEN: \"" + words + "\"");
        }
    }

    int wrong() {
        return wrong;
    }

    void end() {
        String tested = sentences == 0 ? "" : sentences + " sentences, ";
        System.out.println(tested + looked + " answers looked at, " + wrong + " not as due");
        if (wrong != 0) {
            System.exit(1);
        }
    }
}
