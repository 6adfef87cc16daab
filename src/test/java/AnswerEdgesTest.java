/** What stands ahead of promise 1 and holds for all calls: how long an object is used, and what refused is. */
public final class AnswerEdgesTest {
    private static final Runs R = new Runs();
    private static final String NO_HAND = "hand 0 0; hand 1 0; hand 2 0; hand 3 0";
    private static final String FILLED = "later 40; row 0 2; row 1 3; row 2 3; lay 0 0 7; lay 1 1 7; lay 2 0 9; "
            + "row 4 0; paint 3 1604; proof 1500 1650 3; found 3 2; rings 1590 6 4; threads 0 1 1610 1620 5; "
            + "later 10; sap 5 20 3; strike 0; proof 1700 1710 9; hand 0 5; hand 1 3; test 10 1 0; test 5 1 0; "
            + "test 20 3 NONE; often 0 0 16; often 2 1 2; done 0 true; owner 1600 1610; owner 1650 1660; "
            + "opinion 1 0 80 false; opinion 1 0 60 false; opinion 2 1 30 true; law 0 500 30 10; law 45 5 90 20; "
            + "sold 30 36500 1; chance 0; match 0 1; gaps 1500 1700; tear 5 = NOTHING; tear 5 = NOTHING; ";

    public static void main(String[] args) {
        calls();
        order();
        changesNothing();
        changesNothingElse();
        none();
        findings();
        fractions();
        R.end();
    }

    private static void calls() {
        R.term("An object is used for at most 512 calls after it has been made; what later calls answer is free.");
        PictureCourt x = new PictureCourt();
        for (int n = 1; n <= 255; n++) {
            R.checks().due("later(1), call " + (2 * n - 1), x.later(1), n);
            R.checks().due("tear(0), call " + (2 * n), x.tear(0), PictureCourt.FINDING);
        }
        R.checks().due("findings(1), call 511", x.findings(1), 255);
        R.checks().due("count(0), call 512", x.count(0), 255);
        noCallFails(x);
    }

    /** Far beyond the 512th call an answer is free, but it is one: nothing is thrown. */
    private static void noCallFails(PictureCourt x) {
        int[] wild = {Integer.MIN_VALUE, -10, -9, -1, 0, 1, 3, 5, 9, 16, 40, 41, 1000, 1500, 2100, 30000,
            Integer.MAX_VALUE};
        for (int a : wild) {
            for (int b : wild) {
                for (int c : wild) {
                    callAll(x, a, b, c);
                }
            }
        }
        R.checks().holds("every call has ended", true);
    }

    private static void callAll(PictureCourt x, int a, int b, int c) {
        boolean flag = a > b;
        x.row(a, b);
        x.lay(a, b, c);
        x.copy(a, b, b, c, c);
        x.copy(a, b, c, a, b);
        x.match(a, b);
        x.sure(a, b);
        x.paint(a, b);
        x.sap(a, b, c);
        x.proof(a, b, c);
        x.found(a, b);
        x.rings(a, b, c);
        x.threads(a, b, c, c, 1);
        x.threads(0, 1, a, b, c);
        x.strike(a);
        x.told(a, b);
        x.mark(a, b);
        x.span(a, flag);
        x.quarrel(a);
        x.leftOut(a);
        x.heldYear(a);
        x.hand(a, b);
        x.test(a, b, c);
        x.often(a, b, c);
        x.done(a, flag);
        x.chance(a);
        x.likely();
        x.gain(a);
        x.next(a, b);
        x.owner(a, b);
        x.gaps(a, b);
        x.opinion(a, b, c, flag);
        x.mean(a, flag);
        x.spread();
        x.sold(a, b, c);
        x.law(a, b, c, c);
        x.claim();
        x.count(a);
        x.findings(a);
        x.digest();
        x.tear(c);
        x.later(a);
    }

    private static void order() {
        R.term("Refused is, the first of these that fits, in this order: BAD -1 (a number that is none, or not as "
                + "told), FULL -2, STATE -4 (not now), FINDING -3 (finding() tells which), unless a call says so "
                + "otherwise.");
        badAheadOfFull();
        badAheadOfState();
        badAheadOfFindings();
        R.run("test 1 0 NONE; done 0 true; " + NO_HAND + "; gain 0 = STATE");
        R.run("test 1 0 2; test 1 0 2; done 0 true; " + NO_HAND + "; gain 1 = STATE");
        R.run(NO_HAND + "; claim = STATE; law 0 0 100 0; claim = STATE; sold 0 1 0; claim = NOUGHT");
        R.run("lay 0 0 1 = NOTHING; lay 0 -1 1 = NOTHING; lay 0 40 1 = NOTHING");
        R.run("row 1 1; copy 0 -1 1 -1 -1 = NOTHING; copy 1 2 0 0 1 = NOTHING");
        R.run("row 1 0; match 1 0 = NOTHING; match 0 1 = NOTHING");
    }

    private static void badAheadOfFull() {
        R.run("24x proof 1000 2100 1; proof 999 2100 1 = BAD; found 10 1 = BAD; rings 2001 0 1 = BAD; "
                + "threads 0 0 1000 2100 1 = BAD; proof 1000 2100 10 = BAD; found 0 0 = BAD; rings 1000 0 10 = BAD; "
                + "threads 0 1 1000 2100 0 = BAD; proof 1000 2100 1 = FULL; found 0 1 = FULL; rings 1000 0 1 = FULL; "
                + "threads 0 1 1000 2100 1 = FULL");
        R.run("10x test 1 0 NONE; test 0 0 NONE = BAD; test 1 -1 0 = BAD; test 1 0 4 = BAD; test 1 0 3 = FULL");
        R.run("20x owner 1500 1500; owner 1501 1500 = BAD; owner 999 1500 = BAD; owner 1500 1501 = FULL");
        R.run("30x opinion 0 0 0 true; opinion 10 0 0 true = BAD; opinion 0 4 0 true = BAD; "
                + "opinion 0 0 101 true = BAD; opinion 0 0 100 true = FULL");
        R.run("8x law 0 0 0 0; law -1 0 0 0 = BAD; law 0 30001 0 0 = BAD; law 0 0 101 0 = BAD; law 0 0 0 101 = BAD; "
                + "law 0 0 0 100 = FULL");
    }

    private static void badAheadOfState() {
        R.run("proof 1500 1600 1; strike 0; strike 1 = BAD; strike 0 = STATE");
        R.run("test 1 0 NONE; done 0 false; often 0 0 17 = BAD; often 0 4 0 = BAD; often 1 0 0 = BAD; "
                + "often 0 0 16 = STATE; done 1 true = BAD; done 0 true = STATE; gain 1 = BAD; gain 0 = STATE");
    }

    private static void badAheadOfFindings() {
        R.run("row 6 -1 = BAD; row -1 -1 = BAD; row 6 41 = BAD; lay 6 0 0 = BAD; tear 6 = BAD");
        R.run("copy 0 0 6 0 1 = BAD; copy 6 0 0 0 1 = BAD; copy 0 -1 -1 0 -1 = BAD; match 0 0 = BAD; match 0 6 = BAD");
        R.run("row 0 0; match 0 0 = BAD; lay -1 0 0 = BAD");
        R.run("proof 1500 1600 1; mark 0 4 = BAD; mark 1 3 = BAD; mark 0 3 = UNLIKE");
        R.run(NO_HAND + "; chance 4 = BAD; chance -1 = BAD; chance 3 = NOUGHT");
        R.run(NO_HAND + "; test 1 0 NONE; gain 1 = BAD; gain 0 = NOUGHT");
        R.run(NO_HAND + "; next -1 0 = BAD; next 0 -1 = BAD; next 0 0 = NOUGHT");
        R.run("mean 4 true = BAD; mean -1 false = BAD; mean 3 true = NOUGHT");
    }

    /** A well filled object, and a refused call of every sort: Runs looks at all that is seen afterwards. */
    private static void changesNothing() {
        R.term("What is refused changes nothing but finding(), findings().");
        String[] refused = {
            "later -1 = BAD", "later 29951 = BAD", "row 0 41 = BAD", "row 0 -1 = SIZE", "row 6 3 = BAD",
            "lay 0 2 5 = BEYOND", "lay 5 0 5 = NOTHING", "lay 6 0 5 = BAD", "tear 5 = NOTHING", "tear -1 = BAD",
            "copy 0 0 1 2 2 = BEYOND", "copy 1 0 0 0 3 = BEYOND", "copy 0 0 5 0 1 = NOTHING", "copy 0 0 6 0 1 = BAD",
            "copy 0 0 1 0 -1 = BEYOND", "match 1 0 = SIZE", "match 4 0 = SIZE", "match 0 5 = NOTHING",
            "match 1 1 = BAD", "sure 1 1 = BAD", "paint 3 999 = BAD", "paint 10 1500 = BAD", "sap 6 5 1 = BAD",
            "sap 0 1 61 = BAD", "proof 1601 1600 1 = BAD", "found 3 10 = BAD", "rings 1500 31 1 = BAD",
            "threads 2 2 1500 1600 1 = BAD", "strike 0 = STATE", "strike 5 = BAD", "told 5 0 = BAD",
            "mark 0 1 = UNLIKE", "mark 0 4 = BAD", "span -1 true = BAD", "quarrel 30001 = BAD", "leftOut -1 = BAD",
            "heldYear 30001 = BAD", "hand 0 100 = BAD", "hand 4 1 = BAD", "test 0 0 0 = BAD", "often 2 0 17 = BAD",
            "often 0 0 3 = STATE", "done 0 false = STATE", "done 3 false = BAD", "chance 4 = BAD", "gain 0 = STATE",
            "gain 1 = STATE", "gain 3 = BAD", "next -1 5 = BAD", "owner 1500 1499 = BAD", "gaps 1500 1499 = BAD",
            "opinion 1 0 101 false = BAD", "mean 3 true = NOUGHT", "mean 4 true = BAD", "sold 51 5 0 = BAD",
            "sold 5 0 0 = BAD", "law 0 0 101 0 = BAD", "count 8 = BAD", "findings 0 = BAD", "findings 6 = BAD",
        };
        for (String call : refused) {
            R.run(FILLED + call);
        }
    }

    /** Runs looks at all that a change must leave as it was. */
    private static void changesNothingElse() {
        R.term("A call that is not refused changes what its promise says, and nothing else.");
        String[] taken = {
            "later 0 = 50", "later 1 = 51", "later 29950 = 30000", "row 0 2 = 2", "row 3 40 = 40", "row 2 0 = 0",
            "lay 0 0 7 = 1007", "lay 1 2 200 = 1000", "tear 4 = 1", "tear 1 = 1", "copy 0 0 1 1 2 = 1",
            "copy 1 0 1 1 2 = 1", "paint 3 1500 = 1604", "paint 0 2100 = 1000", "sap 0 60 60 = 1", "proof 1000 2100 1 "
                    + "= 5",
            "found 3 9 = 5", "rings 2000 30 1 = 5", "threads 1 2 1500 1600 1 = 5", "strike 1 = 1", "strike 4 = 1",
            "hand 0 0 = 5", "hand 3 99 = 1", "test 1 0 NONE = 3", "test 1000 9 0 = 3", "often 1 0 0 = 8", "often 2 1 "
                    + "16 = 2",
            "done 1 true = 0", "done 2 false = 1", "owner 1000 2100 = 3", "owner 1500 1500 = 3", "opinion 9 3 100 "
                    + "false = 4",
            "opinion 1 0 0 true = 4", "sold 0 1 3 = 1", "sold 50 1000000 0 = 1", "law 50 0 0 0 = 2", "law 30 30000 "
                    + "100 100 = 2",
        };
        for (String call : taken) {
            R.run(FILLED + call);
        }
    }

    private static void none() {
        R.term("NONE -9.");
        R.run("gaps 1500 1504; chance 0; tear 0 = NOTHING; quarrel 0 = NONE; spread = NONE; next 0 0 = NONE; "
                + "proof 1500 1500 1; proof 1600 1600 1; span 0 false = NONE; span 0 true = NONE; told 0 3 = NONE; "
                + "asked = 5; finding = 1; findings 1 = 1");
        R.run("test 1 0 NONE = 0; test 1 0 -9 = 1; done 0 true = 1; done 1 true = 1");
        R.run("hand NONE 1 = BAD; chance NONE = BAD; mean NONE true = BAD; sold 0 5 NONE = BAD; "
                + "opinion 0 NONE 5 true = BAD; row NONE 1 = BAD; told NONE 0 = BAD; span NONE true = BAD; "
                + "gain NONE = BAD; sold NONE 5 0 = BAD; law NONE 5 5 5 = BAD");
    }

    private static void findings() {
        R.term("FINDINGS: 1 NOTHING (a ROW that is missing), 2 BEYOND (a place that there is not), 3 UNLIKE (a PROOF "
                + "of another KIND), 4 NOUGHT (shared among none; no HAND can be), 5 SIZE (fewer than none; "
                + "a ROW that is too short).");
        R.run("tear 0 = NOTHING; finding = 1; row 0 1; lay 0 1 1 = BEYOND; finding = 2; proof 1500 1600 1; "
                + "mark 0 1 = UNLIKE; finding = 3; mean 0 true = NOUGHT; finding = 4; row 0 -1 = SIZE; finding = 5");
        R.run("row 0 -1 = SIZE; row 0 0; row 1 1; match 0 1 = SIZE; match 1 0 = SIZE; findings 5 = 3");
        R.run(NO_HAND + "; chance 0 = NOUGHT; likely = NOUGHT; next 0 0 = NOUGHT; mean 0 false = NOUGHT; test 1 0 0; "
                + "gain 0 = NOUGHT; law 0 0 0 0; sold 0 1 0; claim = NOUGHT; findings 4 = 6");
    }

    private static void fractions() {
        R.term("Fractions are told by upper() and lower(), in lowest terms, the lower number above 0 (0 by 1).");
        R.run("hand 0 6; hand 1 3; hand 2 0; hand 3 0; chance 0 = 1; upper = 2; lower = 3; chance 1 = 1; upper = 1; "
                + "lower = 3; chance 2 = 1; upper = 0; lower = 1");
        R.run("hand 1 0; hand 2 0; hand 3 0; chance 0 = 1; upper = 1; lower = 1");
        R.run("hand 0 97; hand 1 0; hand 2 0; chance 3 = 1; upper = 1; lower = 98; chance 0 = 1; upper = 97; "
                + "lower = 98");
        R.run("test 1 0 NONE; gain 0 = 1; upper = 0; lower = 1; often 0 0 9; gain 0 = 1; upper = 1; lower = 64");
        R.run("hand 0 99; hand 1 99; hand 2 99; hand 3 99; chance 3 = 1; upper = 1; lower = 4");
    }
}
