/** Compares answers with those that are due, and ends a test with exit code 1 if one was not. */
final class Checks {
    private int all = 0;
    private int wrong = 0;
    private String promise = "";

    void promise(int number, String name) {
        promise = number + " (" + name + ")";
    }

    void due(String call, long got, long want) {
        all++;
        if (got != want) {
            wrong++;
            System.out.println("promise " + promise + ": " + call + " answered " + got + ", due is " + want);
        }
    }

    void holds(String what, boolean it) {
        all++;
        if (!it) {
            wrong++;
            System.out.println("promise " + promise + ": not so: " + what);
        }
    }

    /** A refused call with a FINDING: the answer, finding(), findings() one more, and nothing else changed. */
    void finding(String call, PictureCourt x, java.util.function.IntSupplier refused, int f) {
        int before = x.findings(f);
        String state = stateOf(x);
        due(call, refused.getAsInt(), PictureCourt.FINDING);
        due("finding() after " + call, x.finding(), f);
        due("findings(" + f + ") after " + call, x.findings(f), before + 1);
        holds(call + " changes nothing", state.equals(stateOf(x)));
    }

    /** A call refused without a FINDING: the answer, and nothing changed. */
    void refused(String call, PictureCourt x, java.util.function.IntSupplier refused, int want) {
        String state = stateOf(x) + findingsOf(x);
        due(call, refused.getAsInt(), want);
        holds(call + " changes nothing", state.equals(stateOf(x) + findingsOf(x)));
    }

    private static String stateOf(PictureCourt x) {
        return x.digest() + " " + x.asked() + " " + x.upper() + " " + x.lower();
    }

    private static String findingsOf(PictureCourt x) {
        StringBuilder text = new StringBuilder(" " + x.finding());
        for (int f = 1; f <= 5; f++) {
            text.append(' ').append(x.findings(f));
        }
        return text.toString();
    }

    void end() {
        System.out.println(all + " answers looked at, " + wrong + " not as due");
        if (wrong != 0) {
            System.exit(1);
        }
    }
}
