import java.math.BigInteger;

/** Promises 22 to 29, sentence by sentence, where they name an edge; with the terms on HANDS and TESTS. */
public final class HandEdgesTest {
    private static final Runs R = new Runs();
    private static final String NO_HAND = "hand 0 0; hand 1 0; hand 2 0; hand 3 0; ";
    /** Two HANDS that can be, 3 to 1. */
    private static final String THREE_TO_ONE = "hand 0 3; hand 2 0; hand 3 0; ";

    public static void main(String[] args) {
        hand();
        test();
        often();
        done();
        groups();
        chance();
        scores();
        likely();
        gain();
        gainRefused();
        next();
        nextOfAlike();
        R.end();
    }

    private static void hand() {
        R.term("HANDS 0 .. 3 have a weight each to begin with (0 .. 99; 1 at first).");
        R.run(Runs.each(0, 3, "hand # 5 = 1") + "; " + Runs.each(0, 3, "hand # 6 = 5"));
        R.sentence(22, "The weight of a HAND: what it was. BAD.");
        R.edges("", "hand % 1", 0, 3);
        R.edges("", "hand 0 %", 0, 99);
        R.edges("hand 3 42", "hand 3 %", 0, 99);
        R.run("hand 0 0 = 1; hand 0 99 = 0; hand 0 100 = BAD; hand 0 -1 = BAD; hand 0 1 = 99; hand 3 99 = 1; "
                + "hand 3 0 = 99; hand 4 1 = BAD; hand -1 1 = BAD; hand 3 1 = 0");
        R.run("test 1 0 NONE; done 0 true; hand 0 97; chance 0 = 1; upper = 97; lower = 100");
    }

    private static void test() {
        R.term("TESTS 0, 1, .. (10 at most): a cost (1 .. 1000), a wound (0 .. 9), a GROUP (0 .. 3, or NONE)");
        R.edges("", "test % 0 NONE", 1, 1000);
        R.edges("", "test 1 % NONE", 0, 9);
        R.edges("", "test 1 0 %", 0, 3);
        R.run("test 1 0 NONE = 0; test 1 0 -8 = BAD; test 1 0 -10 = BAD; test 1 0 -2 = BAD; test 1000 9 3 = 1; "
                + "test 1 0 0 = 2");
        R.term("for each HAND how often of 16 it comes out (0 .. 16; 8 at first)");
        R.run("9x test 1 0 NONE; test 1 0 3; " + Runs.each(0, 3, "often 0 # 0 = 8") + "; "
                + Runs.each(0, 3, "often 9 # 16 = 8")
                + "; " + Runs.each(0, 3, "often 8 # 1 = 8"));
        R.sentence(23, "A TEST: its number. BAD; FULL.");
        R.run("9x test 1 0 NONE; test 1000 9 3 = 9; count 3 = 10; test 1 0 NONE = FULL; test 1 0 0 = FULL; "
                + "test 0 0 0 = BAD; test 1001 0 0 = BAD; count 3 = 10; done 10 true = BAD");
        R.run("10x test 1 0 NONE; done 0 true; done 9 false; test 1 0 NONE = FULL; count 3 = 10; count 4 = 2");
        R.run(Runs.each(0, 9, "test 1 0 NONE = #") + "; test 1 0 NONE = FULL");
    }

    private static void often() {
        R.sentence(24, "How often of 16 a TEST comes out with a HAND: what it was. BAD; STATE: it is DONE.");
        R.edges("3x test 1 0 NONE", "often % 0 1", 0, 2);
        R.edges("10x test 1 0 NONE", "often % 3 1", 0, 9);
        R.edges("test 1 0 NONE", "often 0 % 1", 0, 3);
        R.edges("test 1 0 NONE", "often 0 0 %", 0, 16);
        R.run("often 0 0 0 = BAD; test 1 0 0; often 0 3 16 = 8; often 0 3 0 = 16; often 0 3 17 = BAD; "
                + "often 0 3 -1 = BAD; often 0 3 8 = 0; often 0 2 1 = 8; often 0 4 1 = BAD; often 1 0 1 = BAD");
        R.run("test 1 0 NONE; test 1 0 NONE; done 0 true; often 0 0 1 = STATE; often 0 3 8 = STATE; often 1 0 1 = 8; "
                + "done 1 false; often 1 0 1 = STATE");
        R.run("test 1 0 2; test 1 0 2; done 0 true; often 1 0 1 = 8; often 1 0 2 = 1; done 1 true = 0; "
                + "often 1 0 3 = STATE");
    }

    private static void done() {
        R.sentence(25, "A TEST is DONE: 1 it counts, 0 it does not. BAD; STATE: it is.");
        R.edges("3x test 1 0 NONE", "done % true", 0, 2);
        R.edges("10x test 1 0 0", "done % false", 0, 9);
        R.run("done 0 true = BAD; test 1 0 NONE; done 0 false = 1; done 0 false = STATE; done 0 true = STATE; "
                + "done 1 true = BAD; count 4 = 1");
        R.run("test 1 0 1; test 1 0 1; done 1 true = 1; done 0 true = 0; done 0 true = STATE; done 1 false = STATE; "
                + "count 4 = 2");
    }

    private static void groups() {
        R.term("A TEST that was DONE came out, or not.");
        R.run(THREE_TO_ONE + "test 1 0 NONE; often 0 1 16; done 0 true = 1; chance 1 = 1; upper = 2; lower = 5; "
                + "done 0 false = STATE; chance 1 = 1; upper = 2; lower = 5");
        R.run(THREE_TO_ONE + "test 1 0 NONE; often 0 1 16; done 0 false = 1; chance 1 = 1; upper = 0; lower = 1; "
                + "done 0 true = STATE; chance 1 = 1; upper = 0; lower = 1");
        R.term("Of the TESTS of a GROUP that were DONE only the first one done counts; those of no GROUP all count.");
        R.run("test 1 0 0; test 1 0 1; test 1 0 2; test 1 0 3; test 1 0 0; test 1 0 1; test 1 0 2; test 1 0 3; "
                + "test 1 0 NONE; test 1 0 NONE;"
                + Runs.each(0, 3, "done # true = 1") + "; " + Runs.each(4, 7, "done # true = 0") + "; "
                + "done 8 true = 1; done 9 true = 1");
        R.run(THREE_TO_ONE + "test 1 0 3; test 1 0 3; often 0 0 4; often 0 1 16; often 1 0 0; often 1 1 16; "
                + "done 0 true = 1; chance 0 = 1; upper = 3; lower = 7; done 1 true = 0; chance 0 = 1; upper = 3; "
                + "lower = 7");
        R.run(THREE_TO_ONE + "test 1 0 3; test 1 0 3; often 0 0 4; often 0 1 16; often 1 0 0; often 1 1 16; "
                + "done 1 true = 1; chance 0 = 1; upper = 0; lower = 1; done 0 true = 0; chance 0 = 1; upper = 0; "
                + "lower = 1");
        R.run(THREE_TO_ONE + "2x test 1 0 NONE; often 0 0 4; often 1 0 2; done 0 true = 1; chance 0 = 1; upper = 3; "
                + "lower = 5; done 1 true = 1; chance 0 = 1; upper = 3; lower = 11");
        R.run(THREE_TO_ONE + "10x test 1 0 NONE; " + Runs.each(0, 9, "often # 0 16; done # true = 1") + "; "
                + "chance 0 = 1; upper = 3072; lower = 3073");
    }

    private static void chance() {
        R.sentence(26, "CHANCE of a HAND, told by upper(), lower(): 1. BAD; NOUGHT.");
        R.edges("", "chance %", 0, 3);
        R.run("hand 3 0; chance 3 = 1; upper = 0; lower = 1; chance 0 = 1; upper = 1; lower = 3; chance 4 = BAD; "
                + "upper = 1; lower = 3");
        R.run(NO_HAND + "chance 0 = NOUGHT; chance 3 = NOUGHT; hand 3 1; chance 0 = 1; upper = 0; lower = 1; "
                + "chance 3 = 1; upper = 1; lower = 1");
        R.run("chance 0 = 1; " + NO_HAND + "chance 0 = NOUGHT; upper = 1; lower = 4");
        R.term("4 NOUGHT (shared among none; no HAND can be)");
        R.run("test 1 0 NONE; " + Runs.each(0, 3, "often 0 # 0") + "; chance 0 = 1; done 0 true; chance 0 = NOUGHT; "
                + "likely = NOUGHT");
        R.run("test 1 0 NONE; " + Runs.each(0, 3, "often 0 # 16") + "; chance 0 = 1; done 0 false; chance 0 = NOUGHT; "
                + "likely = NOUGHT");
        R.run("test 1 0 NONE; " + Runs.each(0, 2, "often 0 # 0") + "; done 0 true; chance 3 = 1; upper = 1; "
                + "lower = 1; hand 3 0; chance 3 = NOUGHT");
        R.run("test 1 0 0; test 1 0 0; " + Runs.each(0, 3, "often 1 # 0") + "; done 0 true; done 1 true; "
                + "chance 0 = 1; upper = 1; lower = 4");
    }

    private static void scores() {
        R.term("SCORE of a HAND: its weight, times for each TEST that counts how often of 16 (what is left of 16, if "
                + "it did not come out).");
        R.run(THREE_TO_ONE + "test 1 0 NONE; often 0 0 16; often 0 1 0; done 0 true; chance 0 = 1; upper = 1; "
                + "lower = 1");
        R.run(THREE_TO_ONE + "test 1 0 NONE; often 0 0 16; often 0 1 0; done 0 false; chance 0 = 1; upper = 0; "
                + "lower = 1; chance 1 = 1; upper = 1; lower = 1");
        R.run(THREE_TO_ONE + "test 1 0 NONE; often 0 0 1; often 0 1 15; done 0 true; chance 0 = 1; upper = 1; "
                + "lower = 6");
        R.run(THREE_TO_ONE + "test 1 0 NONE; often 0 0 1; often 0 1 15; done 0 false; chance 0 = 1; upper = 45; "
                + "lower = 46");
        R.term("CHANCE of a HAND: its SCORE by all SCORES.");
        greatestScores();
    }

    /** Ten TESTS that all count, with the greatest numbers that there are: no SCORE may wrap around. */
    private static void greatestScores() {
        String ten = Runs.each(0, 3, "hand # 99") + "; 10x test 1 0 NONE; " + Runs.each(0, 9, "often # 0 16; "
                + "often # 1 15; often # 2 16; often # 3 1");
        BigInteger first = BigInteger.valueOf(16).pow(10);
        BigInteger second = BigInteger.valueOf(15).pow(10);
        BigInteger all = first.add(second).add(first).add(BigInteger.ONE);
        R.run(ten + "; " + Runs.each(0, 9, "done # true") + "; chance 0 = 1; " + lowest(first, all) + "; chance 1 = 1; "
                + lowest(second, all) + "; chance 3 = 1; " + lowest(BigInteger.ONE, all) + "; likely = 0");
        R.run(ten + "; " + Runs.each(0, 8, "done # true") + "; gain 9 = 1; next 1 0 = 9");
        R.run(ten + "; " + Runs.each(0, 8, "done # false") + "; chance 3 = 1; upper = 38443359375; "
                + "lower = 38443359376; chance 0 = 1; upper = 0; lower = 1; likely = 3");
    }

    private static String lowest(BigInteger upper, BigInteger lower) {
        BigInteger common = upper.gcd(lower);
        return "upper = " + upper.divide(common) + "; lower = " + lower.divide(common);
    }

    private static void likely() {
        R.sentence(27, "The HAND with the greatest CHANCE, the least of alike ones. NOUGHT.");
        R.run("likely = 0; hand 0 0; likely = 1; hand 1 0; likely = 2; hand 2 0; likely = 3; hand 3 0; "
                + "likely = NOUGHT; hand 3 1; likely = 3");
        R.run("hand 3 2; likely = 3; hand 2 2; likely = 2; hand 1 2; likely = 1; hand 0 2; likely = 0; hand 3 3; "
                + "likely = 3");
        R.run("hand 0 98; hand 3 99; likely = 3; hand 0 99; likely = 0; upper = 0; lower = 1; asked = 0");
        R.run("test 1 0 NONE; often 0 0 7; often 0 3 9; likely = 0; done 0 true; likely = 3; hand 0 2; likely = 0");
    }

    private static void gain() {
        R.sentence(28, "GAIN of a TEST, told by upper(), lower(): 1.");
        R.run("test 1 0 NONE; often 0 0 16; gain 0 = 1; upper = 1; lower = 8; often 0 0 8; gain 0 = 1; upper = 0; "
                + "lower = 1");
        R.term("the greatest CHANCE behind it, on the mean of how it comes out, less the greatest CHANCE now.");
        R.run(THREE_TO_ONE + "test 1 0 NONE; gain 0 = 1; upper = 0; lower = 1; often 0 0 16; often 0 1 0; gain 0 = 1; "
                + "upper = 1; lower = 4; often 0 0 0; often 0 1 16; gain 0 = 1; upper = 1; lower = 4");
        R.run(THREE_TO_ONE + "test 1 0 NONE; often 0 0 0; often 0 1 0; gain 0 = 1; upper = 0; lower = 1; "
                + "often 0 0 16; often 0 1 16; gain 0 = 1; upper = 0; lower = 1");
        R.run(THREE_TO_ONE + "test 1 0 NONE; often 0 0 5; often 0 1 15; gain 0 = 1; upper = 0; lower = 1; "
                + "often 0 0 4; often 0 1 16; gain 0 = 1; upper = 1; lower = 16; often 0 0 5; gain 0 = 1; upper = 1; "
                + "lower = 64; often 0 1 14; gain 0 = 1; upper = 0; lower = 1");
        R.run("test 1 0 NONE; often 0 0 16; often 0 1 16; often 0 2 0; often 0 3 0; gain 0 = 1; upper = 1; lower = 4");
        R.run("hand 1 0; hand 2 0; hand 3 0; test 1 0 NONE; often 0 0 3; gain 0 = 1; upper = 0; lower = 1");
        R.run("test 1 0 NONE; test 1 0 NONE; often 0 0 16; often 0 1 0; often 1 0 16; often 1 1 0; gain 1 = 1; "
                + "upper = 1; lower = 4; done 0 true; gain 1 = 1; upper = 1; lower = 8");
        R.run("gaps 1500 1504; test 1 0 NONE; gain 0 = 1; asked = 5; likely = 0; next 1 0 = 0; upper = 0; lower = 1");
    }

    private static void gainRefused() {
        R.sentence(28, "BAD; STATE: it is DONE, or one of its GROUP; NOUGHT. (STATE ahead.)");
        R.edges("3x test 1 0 NONE", "gain %", 0, 2);
        R.edges("10x test 1 0 0", "gain %", 0, 9);
        R.run("gain 0 = BAD; test 1 0 NONE; gain 0 = 1; done 0 true; gain 0 = STATE; upper = 0; lower = 1; "
                + "test 1 0 NONE; gain 1 = 1");
        R.run("test 1 0 0; test 1 0 0; test 1 0 NONE; done 0 true; " + NO_HAND + "gain 0 = STATE; gain 1 = STATE; "
                + "gain 2 = NOUGHT; gain 3 = BAD");
        R.run("chance 0; test 1 0 NONE; " + NO_HAND + "gain 0 = NOUGHT; upper = 1; lower = 4");
        R.term("GAIN of a TEST that is not DONE, and of the GROUP of which none was:");
        for (int group = 0; group <= 3; group++) {
            String it = "test 1 0 G; test 1 0 G; test 1 0 H; test 1 0 NONE; done 0 true; gain 0 = STATE; "
                    + "gain 1 = STATE; gain 2 = 1; gain 3 = 1; done 3 true; gain 2 = 1; test 1 0 NONE; gain 4 = 1";
            R.run(it.replace("G", "" + group).replace("H", "" + (group + 1) % 4));
        }
    }

    private static void next() {
        R.sentence(29, "THE NEXT for a cost and a wound: a TEST; NONE: there is none. BAD: below 0; NOUGHT.");
        R.run("next 0 0 = NONE; next 0 -1 = BAD; next -1 0 = BAD; next -1 -1 = BAD; next min 0 = BAD; "
                + "next 0 min = BAD; next max max = NONE");
        R.run("test 1 0 NONE; next -1 0 = BAD; next 0 -1 = BAD; next 0 0 = NONE; next 1 0 = 0; next max 0 = 0; "
                + "next 1 max = 0; next max max = 0; next 1001 10 = 0");
        R.run("test 1000 9 NONE; next 999 9 = NONE; next 1000 8 = NONE; next 1000 9 = 0; next 1001 9 = 0; "
                + "next 1000 10 = 0");
        R.run(NO_HAND + "next 0 0 = NOUGHT; test 1 0 NONE; next 1 0 = NOUGHT; next 0 0 = NOUGHT; done 0 true; "
                + "next 1 0 = NOUGHT; next -1 0 = BAD");
        R.run("test 1 0 1; test 1 0 1; test 2 0 NONE; next 2 0 = 0; done 1 true; next 2 0 = 2; next 1 0 = NONE; "
                + "done 2 true; next 2 0 = NONE; finding = 0");
    }

    private static void nextOfAlike() {
        R.term("THE NEXT for a cost and a wound: of those that cost and wound no more the one with the greatest GAIN, "
                + "of alike ones the least cost, then the least TEST.");
        R.run("test 5 2 NONE; test 5 2 NONE; test 4 2 NONE; test 4 2 NONE; test 3 3 NONE; next 5 3 = 4; next 5 2 = 2; "
                + "next 4 2 = 2; next 3 2 = NONE; done 2 true; next 5 2 = 3; done 3 true; next 5 2 = 0; done 0 true; "
                + "next 5 2 = 1");
        R.run(THREE_TO_ONE + "test 900 9 NONE; test 1 0 NONE; often 0 0 16; often 0 1 0; next 1000 9 = 0; "
                + "next 899 9 = 1; next 1000 8 = 1; often 1 0 16; often 1 1 0; next 1000 9 = 1; often 0 1 1; "
                + "next 1000 9 = 1; often 0 1 0; often 1 1 1; next 1000 9 = 0");
        R.run("10x test 7 7 NONE; next 7 7 = 0; often 9 0 9; next 7 7 = 9; often 0 0 9; next 7 7 = 0; often 5 0 10; "
                + "next 7 7 = 5; done 5 true; next 7 7 = 0");
    }
}
