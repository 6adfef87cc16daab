import java.math.BigInteger;
import java.util.ArrayList;
import java.util.List;

/** Promises 38 to 44, sentence by sentence, where they name an edge. */
public final class ToldEdgesTest {
    private static final Runs R = new Runs();
    private static final String FULL_OBJECT = "later 30000; 24x proof 1000 2100 1; 10x test 1 0 NONE; "
            + "20x owner 1500 1600; 30x opinion 0 0 50 true; 8x law 0 0 0 0";

    public static void main(String[] args) {
        asked();
        fractions();
        count();
        finding();
        findings();
        digest();
        digestOfFull();
        R.end();
    }

    private static void asked() {
        R.sentence(38, "What the latest match(), quarrel(), leftOut(), gaps(), spread(), claim() (1) that was not "
                + "refused (nor NONE) told; 0 before.");
        R.run("asked = 0; asked = 0; gaps 1500 1504 = 5; asked = 5; asked = 5");
        R.run("row 0 1; row 1 1; lay 1 0 7; match 0 1 = 0; asked = 7; proof 1500 1600 1; proof 1700 1800 2; "
                + "quarrel 0 = 0; asked = 1; leftOut 0 = 1; asked = 1; gaps 1500 1504 = 5; asked = 5; "
                + "opinion 8 0 1 false; opinion 8 0 4 false; spread = 3; asked = 8; sold 0 77 0; law 0 0 100 0; "
                + "claim = 1; asked = 77; match 0 1 = 0; asked = 7; leftOut 0 = 1; asked = 1; spread = 3; asked = 8; "
                + "quarrel 0 = 0; asked = 1; claim = 1; asked = 77; gaps 1000 1000 = 1; asked = 1");
        R.run("gaps 1500 1504; owner 1500 1600; gaps 1500 1504 = 0; asked = 0");
        R.run("gaps 1500 1504; row 0 1; row 1 1; match 0 1 = 0; asked = 0; gaps 1500 1504; opinion 0 0 1 false; "
                + "opinion 0 0 4 false; spread = 3; asked = 0");
        R.run("gaps 1500 1504; row 0 2; row 1 1; match 0 0 = BAD; asked = 5; match 0 2 = NOTHING; asked = 5; "
                + "match 0 1 = SIZE; asked = 5; quarrel 0 = NONE; asked = 5; quarrel -1 = BAD; asked = 5; "
                + "leftOut 30001 = BAD; asked = 5; gaps 1501 1500 = BAD; asked = 5; spread = NONE; asked = 5; "
                + "claim = STATE; asked = 5");
        R.run("gaps 1500 1504; law 0 0 0 0; sold 0 77 0; claim = 3; asked = 5; later 1; claim = 2; asked = 5; "
                + "hand 0 0; hand 1 0; hand 2 0; hand 3 0; claim = NOUGHT; asked = 5");
        R.run("gaps 1500 1504; row 0 1; row 1 1; lay 1 0 7; sure 0 1 = 1; asked = 5; span 0 false = 1000; asked = 5; "
                + "heldYear 0 = 1000; asked = 5; chance 0 = 1; asked = 5; likely = 0; asked = 5; test 1 0 NONE; "
                + "gain 0 = 1; asked = 5; next 1 0 = 0; asked = 5; opinion 0 0 9 false; mean 0 false = 9; asked = 5; "
                + "count 0 = 0; finding = 0; asked = 5; threads 0 1 1500 1600 1; mark 0 3 = 1; asked = 5; "
                + "told 0 4 = 1500; asked = 5");
    }

    private static void fractions() {
        R.sentence(39, "The upper number of what chance(), gain() told last; 0 before.");
        R.run("upper = 0; upper = 0; chance 4 = BAD; upper = 0; gain 0 = BAD; upper = 0; likely = 0; next 0 0 = NONE; "
                + "upper = 0; hand 1 2; chance 1 = 1; upper = 2; hand 1 3; upper = 2; likely = 1; next 1 1 = NONE; "
                + "upper = 2; chance 1 = 1; upper = 1");
        R.run("test 1 0 NONE; often 0 0 16; gain 0 = 1; upper = 1; chance 0 = 1; upper = 1; done 0 true; "
                + "gain 0 = STATE; upper = 1; chance 0 = 1; upper = 2; test 1 0 NONE; gain 1 = 1; upper = 0; "
                + "chance 0 = 1; upper = 2; hand 0 0; chance 0 = 1; upper = 0");
        R.sentence(40, "Its lower number; 1 before.");
        R.run("lower = 1; lower = 1; chance 4 = BAD; lower = 1; gain 0 = BAD; lower = 1; likely = 0; next 0 0 = NONE; "
                + "lower = 1; hand 1 2; chance 1 = 1; lower = 5; hand 1 3; lower = 5; likely = 1; next 1 1 = NONE; "
                + "lower = 5; chance 1 = 1; lower = 2");
        R.run("test 1 0 NONE; often 0 0 16; gain 0 = 1; lower = 8; chance 0 = 1; lower = 4; done 0 true; "
                + "gain 0 = STATE; lower = 4; chance 0 = 1; lower = 5; test 1 0 NONE; gain 1 = 1; lower = 1; "
                + "chance 0 = 1; lower = 5; hand 0 0; chance 0 = 1; lower = 1");
        R.run("chance 0 = 1; hand 0 0; hand 1 0; hand 2 0; hand 3 0; chance 0 = NOUGHT; upper = 1; lower = 4; "
                + "test 1 0 0; gain 0 = NOUGHT; upper = 1; lower = 4");
    }

    private static void count() {
        R.sentence(41, "0 TODAY, 1 PROOFS, 2 those that are not STRUCK, 3 TESTS, 4 those that are DONE, 5 OWNERS, 6 "
                + "OPINIONS, 7 LAWS. BAD.");
        R.edges("", "count %", 0, 7);
        R.edges(FULL_OBJECT, "count %", 0, 7);
        R.run(FULL_OBJECT + "; count 0 = 30000; count 1 = 24; count 2 = 24; count 3 = 10; count 4 = 0; count 5 = 20; "
                + "count 6 = 30; count 7 = 8");
        R.run(FULL_OBJECT + "; " + Runs.each(0, 23, "strike #") + "; " + Runs.each(0, 9, "done # true")
                + "; count 1 = 24; count 2 = 0; count 3 = 10; count 4 = 10; strike 0 = STATE; done 0 true = STATE; "
                + "count 2 = 0; count 4 = 10");
        R.run("later 1; count 0 = 1; proof 1500 1600 1; count 1 = 1; count 2 = 1; strike 0; count 1 = 1; count 2 = 0; "
                + "test 1 0 0; test 1 0 0; count 3 = 2; done 1 false; count 4 = 1; done 0 false; count 4 = 2; "
                + "owner 1500 1600; count 5 = 1; opinion 0 0 0 true; count 6 = 1; law 0 0 0 0; count 7 = 1; "
                + "sold 0 1 0; count 7 = 1");
    }

    private static void finding() {
        R.sentence(42, "The latest FINDING (0 before any).");
        R.run("finding = 0; row 0 41 = BAD; tear 6 = BAD; claim = STATE; spread = NONE; finding = 0; "
                + "tear 0 = NOTHING; finding = 1; finding = 1; row 0 1; finding = 1; row 0 41 = BAD; finding = 1; "
                + "lay 0 1 1 = BEYOND; finding = 2; mean 0 true = NOUGHT; finding = 4; row 0 -1 = SIZE; finding = 5; "
                + "found 0 1; mark 0 2 = UNLIKE; finding = 3; tear 1 = NOTHING; finding = 1");
    }

    private static void findings() {
        R.sentence(43, "How often a FINDING (1 .. 5) was answered. BAD.");
        R.edges("", "findings %", 1, 5);
        R.edges("tear 0 = NOTHING; row 0 -1 = SIZE", "findings %", 1, 5);
        R.run(Runs.each(1, 5, "findings # = 0") + "; findings 0 = BAD; findings 6 = BAD; findings -3 = BAD");
        R.run("tear 0 = NOTHING; tear 0 = NOTHING; findings 1 = 2; findings 2 = 0; tear 6 = BAD; findings 1 = 2; "
                + "row 0 0; lay 0 0 1 = BEYOND; findings 2 = 1; findings 1 = 2; found 0 1; mark 0 2 = UNLIKE; "
                + "findings 3 = 1; mean 0 true = NOUGHT; findings 4 = 1; row 0 -1 = SIZE; findings 5 = 1; "
                + "findings 1 = 2");
        PictureCourt x = new PictureCourt();
        for (int n = 1; n <= 511; n++) {
            x.mean(3, false);
        }
        R.checks().due("findings(4) behind 511 FINDINGS", x.findings(4), 511);
    }

    /** The numbers of which the digest is made, joined without a bound, then cut to 64 bits. */
    private static long digestOf(List<Integer> numbers) {
        BigInteger h = BigInteger.valueOf(17);
        for (int v : numbers) {
            h = h.multiply(BigInteger.valueOf(31)).add(BigInteger.valueOf(v));
        }
        return h.longValue();
    }

    private static String digestDue(Object... parts) {
        List<Integer> numbers = new ArrayList<>();
        for (Object part : parts) {
            for (String word : part.toString().trim().split("\\s+")) {
                numbers.add(Integer.parseInt(word));
            }
        }
        return "; digest = " + digestOf(numbers);
    }

    private static String times(int n, String words) {
        return (words + " ").repeat(n);
    }

    private static void digest() {
        R.sentence(44, "h = 17; then h = 31 h + v for each v:");
        String none = times(8, "0");
        String hands = times(4, "1");
        String paints = times(10, "1000");
        String rows = times(6, "-1");
        R.run("count 0 = 0" + digestDue(none, hands, paints, rows));
        R.sentence(44, "count() 0 to 7; of each PROOF told() 0 to 5");
        R.run("later 30000" + digestDue("30000 0 0 0 0 0 0 0", hands, paints, rows));
        R.run("proof 1000 2100 9; later 3; strike 0"
                + digestDue("3 1 0 0 0 0 0 0", "0 9 0 3 1000 2100", hands, paints, rows));
        R.run("found 0 1; rings 1500 0 2; threads 0 1 1600 1610 3" + digestDue("0 3 3 0 0 0 0 0", "1 1 0 -9 1000 2100",
                "2 2 0 -9 1508 1534", "3 3 0 -9 1000 2100", hands, paints, rows));
        R.sentence(44, "of each HAND its weight; of each TEST its cost, wound, GROUP, how often with HANDS 0 to 3,");
        R.run("hand 0 0; hand 1 99; hand 3 7" + digestDue(none, "0 99 1 7", paints, rows));
        R.run("test 1000 9 3; often 0 0 0; often 0 1 16; often 0 2 3; often 0 3 4"
                + digestDue("0 0 0 1 0 0 0 0", hands, "1000 9 3 0 16 3 4 -9", paints, rows));
        R.sentence(44, "and 1 (it is DONE and came out), 0 (DONE, not so) or NONE");
        R.run("test 1 0 0; test 2 1 0; test 3 2 NONE; done 0 false; done 1 true"
                + digestDue("0 0 0 3 2 0 0 0", hands, "1 0 0 8 8 8 8 0", "2 1 0 8 8 8 8 1",
                "3 2 -9 8 8 8 8 -9", paints, rows));
        R.sentence(44, "of each PAINT its YEAR; of each ROW its size (-1: missing), its bytes.");
        R.run("paint 0 2100; paint 9 1001" + digestDue(none, hands, "2100", times(8, "1000"), "1001", rows));
        R.run("row 0 0; row 2 3; lay 2 0 127; lay 2 2 128; row 5 1; lay 5 0 -1; row 4 2; tear 4"
                + digestDue(none, hands, paints, "0 -1 3 127 0 -128 -1 -1 1 -1"));
        R.run("row 0 40; row 5 40; lay 0 39 1; lay 5 39 2"
                + digestDue(none, hands, paints, "40", times(39, "0"), "1", times(4, "-1"), "40", times(39, "0"), "2"));
        R.run("row 0 3; lay 0 2 9; row 0 2" + digestDue(none, hands, paints, "2 0 0", times(5, "-1")));
    }

    /** What the document does not name is not in it, full or not. */
    private static void digestOfFull() {
        R.sentence(44, "count() 0 to 7; of each PROOF told() 0 to 5");
        R.run(FULL_OBJECT
                + digestDue("30000 24 24 10 0 20 30 8", times(24, "0 1 30000 -9 1000 "
                + "2100"), times(4, "1"), times(10, "1 0 -9 8 8 8 8 -9"),
                times(10, "1000"), times(6, "-1")));
        String one = digestDue("0 0 0 0 0 1 1 1", times(4, "1"), times(10, "1000"), times(6, "-1"));
        R.run("owner 1500 1600; opinion 0 0 0 true; law 0 0 0 0; sold 0 1 0" + one);
        R.run("owner 1000 2100; opinion 9 3 100 false; law 5 6 7 8; sap 1 2 3; gaps 1500 1600; chance 0; "
                + "tear 0 = NOTHING" + one);
    }
}
