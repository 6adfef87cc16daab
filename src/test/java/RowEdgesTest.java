/** Promises 1 to 8, sentence by sentence, where they name an edge; with the terms on TODAY, ROWS and MATCH. */
public final class RowEdgesTest {
    private static final Runs R = new Runs();
    private static final String SIX = Runs.each(0, 5, "row # 1");
    private static final String FIVE_AND_THREE = "row 0 5; row 1 3; " + Runs.each(0, 4, "lay 0 # 1#")
            + "; " + Runs.each(0, 2, "lay 1 # 2#");

    public static void main(String[] args) {
        newObject();
        later();
        row();
        lay();
        tear();
        copy();
        match();
        sure();
        rivals();
        R.end();
    }

    private static void newObject() {
        R.sentence(1, "No ROWS, PROOFS, TESTS, LAWS; no CONTRACT; TODAY 0.");
        R.run(Runs.each(0, 5, "tear # = NOTHING"));
        R.run(Runs.each(0, 7, "count # = 0"));
        R.run("strike 0 = BAD; told 0 0 = BAD; mark 0 0 = BAD; quarrel 0 = NONE; leftOut 0 = 0; asked = 0");
        R.run("done 0 true = BAD; often 0 0 0 = BAD; gain 0 = BAD; next 1000 9 = NONE");
        R.run("claim = STATE; law 0 30000 100 0 = 0; claim = STATE");
        R.run("sold 1 5 0 = BAD; sold 0 5 0 = 1; claim = STATE");
        R.run("gaps 1000 2100 = 1101; asked = 1101; spread = NONE; mean 0 false = NOUGHT; mean 0 true = NOUGHT");
        R.run("asked = 0; upper = 0; lower = 1; finding = 0; " + Runs.each(1, 5, "findings # = 0"));
    }

    private static void later() {
        R.term("TODAY is a day (0 .. 30000; 0 at first), which only goes on.");
        R.run("count 0 = 0; later 30000 = 30000; later 1 = BAD; later -1 = BAD; later -30000 = BAD; count 0 = 30000");
        R.sentence(2, "TODAY is n days later: it. BAD: n below 0, beyond 30000.");
        R.edges("", "later %", 0, 30000);
        R.edges("later 12345", "later %", 0, 17655);
        R.edges("later 30000", "later %", 0, 0);
        R.run("later 0 = 0; later 1 = 1; later 0 = 1; later 29998 = 29999; later 2 = BAD; later 1 = 30000; "
                + "later 0 = 30000");
        R.run("later 1; later max = BAD; later min = BAD; count 0 = 1");
    }

    private static void row() {
        R.term("ROWS 0 .. 5 are rows of 0 to 40 bytes, or missing (at first): counts of threads.");
        R.edges("", "row % 1", 0, 5);
        R.sentence(3, "A ROW is there with n bytes 0: n. BAD: n above 40; SIZE.");
        R.edges("", "row 0 %", 0, 40, "SIZE", "BAD");
        R.edges("row 5 7", "row 5 %", 0, 40, "SIZE", "BAD");
        R.run("row 0 0 = 0; lay 0 0 1 = BEYOND; tear 0 = 1; tear 0 = NOTHING");
        R.run("row 3 40 = 40; " + Runs.each(0, 39, "lay 3 # 7") + "; row 3 40 = 40; "
                + Runs.each(0, 39, "lay 3 # 0 = 1000") + "; lay 3 40 0 = BEYOND");
        R.run("row 2 3; lay 2 2 9; row 2 2 = 2; lay 2 2 1 = BEYOND; row 2 3 = 3; lay 2 2 1 = 1000");
        R.run("row 0 40; row 1 40; row 2 40; lay 0 39 7; lay 1 0 8; lay 1 39 9; lay 2 0 6; row 1 40 = 40; "
                + "lay 0 39 7 = 1007; lay 2 0 6 = 1006; lay 1 0 0 = 1000; lay 1 39 0 = 1000");
    }

    private static void lay() {
        R.sentence(4, "Byte i of a ROW is v, cut to a byte: what it was, and 1000 more.");
        R.run("row 0 1; lay 0 0 127 = 1000; lay 0 0 128 = 1127; lay 0 0 -128 = 872; lay 0 0 -129 = 872; "
                + "lay 0 0 255 = 1127; lay 0 0 256 = 999; lay 0 0 -1 = 1000; lay 0 0 max = 999; lay 0 0 min = 999; "
                + "lay 0 0 1 = 1000; lay 0 0 1 = 1001");
        R.run("row 0 3; lay 0 1 5 = 1000; lay 0 0 0 = 1000; lay 0 2 0 = 1000; lay 0 1 0 = 1005");
        R.sentence(4, "BAD; NOTHING; BEYOND.");
        R.edges(SIX, "lay % 0 1", 0, 5);
        R.edges("row 0 1", "lay 0 % 1", 0, 0, "BEYOND", "BEYOND");
        R.edges("row 5 40", "lay 5 % 1", 0, 39, "BEYOND", "BEYOND");
        R.run("row 1 0; lay 1 0 1 = BEYOND; lay 1 -1 1 = BEYOND; tear 1; lay 1 0 1 = NOTHING; lay 1 -1 1 = NOTHING");
        R.run("lay 0 0 1 = NOTHING; row 0 1; lay 0 0 1 = 1000");
    }

    private static void tear() {
        R.sentence(5, "A ROW is missing: 1. BAD; NOTHING.");
        R.edges(SIX, "tear %", 0, 5);
        R.run("row 4 40; tear 4 = 1; tear 4 = NOTHING; lay 4 0 1 = NOTHING; row 4 0 = 0; tear 4 = 1; tear 4 = NOTHING");
        R.run("row 0 1; row 1 1; row 2 1; lay 0 0 5; lay 2 0 6; tear 1 = 1; lay 0 0 5 = 1005; lay 2 0 6 = 1006");
        R.run("row 1 2; lay 1 1 5; tear 1 = 1; row 1 2 = 2; lay 1 1 5 = 1000");
    }

    private static void copy() {
        R.sentence(6, "n bytes of a ROW, from one on, come to those of another one (perhaps itself) from one on,");
        R.run(FIVE_AND_THREE + "; copy 0 0 1 0 3 = 1; lay 1 0 0 = 1010; lay 1 1 0 = 1011; lay 1 2 0 = 1012; "
                + "lay 0 0 0 = 1010");
        R.run(FIVE_AND_THREE + "; copy 0 2 1 1 2 = 1; lay 1 0 0 = 1020; lay 1 1 0 = 1012; lay 1 2 0 = 1013");
        R.run(FIVE_AND_THREE + "; copy 1 2 0 4 1 = 1; lay 0 4 0 = 1022; lay 0 3 0 = 1013; lay 1 2 0 = 1022");
        R.run(FIVE_AND_THREE + "; copy 0 0 0 0 5 = 1; " + Runs.each(0, 4, "lay 0 # 0 = 101#"));
        R.run("row 0 40; row 5 40; " + Runs.each(0, 39, "lay 0 # #") + "; copy 0 0 5 0 40 = 1; lay 5 0 0 = 1000; "
                + "lay 5 1 0 = 1001; lay 5 39 0 = 1039; copy 0 39 5 0 1 = 1; lay 5 0 0 = 1039");
        R.sentence(6, "as if taken ahead: 1.");
        R.run(FIVE_AND_THREE + "; copy 0 0 0 1 4 = 1; lay 0 0 0 = 1010; lay 0 1 0 = 1010; lay 0 2 0 = 1011; "
                + "lay 0 3 0 = 1012; lay 0 4 0 = 1013");
        R.run(FIVE_AND_THREE + "; copy 0 1 0 0 4 = 1; lay 0 0 0 = 1011; lay 0 1 0 = 1012; lay 0 2 0 = 1013; "
                + "lay 0 3 0 = 1014; lay 0 4 0 = 1014");
        copyRefused();
    }

    private static void copyRefused() {
        R.sentence(6, "BAD; NOTHING: either; BEYOND: not so many there (a place, n below 0, too).");
        R.edges(SIX, "copy % 0 1 0 1", 0, 5);
        R.edges(SIX, "copy 1 0 % 0 1", 0, 5);
        R.run("row 0 1; copy 0 0 1 0 1 = NOTHING; copy 1 0 0 0 1 = NOTHING; copy 1 0 1 0 0 = NOTHING; "
                + "copy 1 5 0 -1 -1 = NOTHING");
        R.edges(FIVE_AND_THREE, "copy 0 % 1 0 2", 0, 3, "BEYOND", "BEYOND");
        R.edges(FIVE_AND_THREE, "copy 0 0 1 % 2", 0, 1, "BEYOND", "BEYOND");
        R.edges(FIVE_AND_THREE, "copy 0 0 1 0 %", 0, 3, "BEYOND", "BEYOND");
        R.edges(FIVE_AND_THREE, "copy 1 0 0 0 %", 0, 3, "BEYOND", "BEYOND");
        R.edges(FIVE_AND_THREE, "copy 0 0 0 0 %", 0, 5, "BEYOND", "BEYOND");
        R.edges(FIVE_AND_THREE, "copy 0 % 1 0 0", 0, 5, "BEYOND", "BEYOND");
        R.edges(FIVE_AND_THREE, "copy 0 0 1 % 0", 0, 3, "BEYOND", "BEYOND");
        R.run("row 0 0; row 1 0; copy 0 0 1 0 0 = 1; copy 0 0 1 0 1 = BEYOND; copy 0 1 1 0 0 = BEYOND; "
                + "copy 0 0 1 1 0 = BEYOND");
        R.run(FIVE_AND_THREE + "; copy 0 5 1 3 0 = 1; " + Runs.each(0, 4, "lay 0 # 0 = 101#") + "; "
                + Runs.each(0, 2, "lay 1 # 0 = 102#"));
        R.run(FIVE_AND_THREE + "; copy 0 1 1 1 max = BEYOND; copy 0 max 1 0 1 = BEYOND; copy 0 0 1 max 1 = BEYOND; "
                + "copy 0 max 1 max max = BEYOND; copy 0 max 1 max min = BEYOND; copy 0 2 1 2 min = BEYOND; "
                + "copy 0 min 1 0 min = BEYOND; copy 0 -1 1 0 0 = BEYOND; copy 0 0 1 -1 0 = BEYOND");
    }

    private static void match() {
        R.sentence(7, "MATCH of a ROW with another one: the place; OFF by asked().");
        R.run("row 0 1; row 1 40; lay 0 0 5; lay 1 39 5; match 0 1 = 39; asked = 0; lay 1 0 5; match 0 1 = 0; "
                + "asked = 0");
        R.run("row 0 40; row 1 40; lay 0 39 1; match 0 1 = 0; asked = 1");
        R.run("row 0 39; row 1 40; lay 0 38 1; lay 1 39 1; match 0 1 = 1; asked = 0");
        R.term("A MATCH of a ROW with another one, as long or longer: the place at which the sum of all differences "
                + "(without signs) is least, the least such place; that sum is its OFF.");
        R.run("row 0 2; row 1 4; lay 0 0 4; lay 0 1 4; lay 1 0 9; lay 1 1 5; lay 1 2 3; lay 1 3 5; match 0 1 = 1; "
                + "asked = 2");
        R.run("row 0 1; row 1 3; match 0 1 = 0; lay 0 0 5; match 0 1 = 0; asked = 5; lay 1 2 10; match 0 1 = 0; "
                + "lay 1 2 9; match 0 1 = 2");
        R.run("row 0 2; row 1 2; lay 0 0 3; lay 1 1 3; match 0 1 = 0; asked = 6");
        R.run("row 0 40; row 1 40; " + Runs.each(0, 39, "lay 0 # 127; lay 1 # -128") + "; match 0 1 = 0; "
                + "asked = 10200; match 1 0 = 0; asked = 10200");
        R.sentence(7, "BAD: also the same one; NOTHING: either;");
        R.edges(SIX, "match % 5", 0, 4);
        R.edges(SIX, "match % 0", 1, 5);
        R.edges(SIX, "match 5 %", 0, 4);
        R.edges(SIX, "match 0 %", 1, 5);
        R.run("match 3 3 = BAD; row 3 2; match 3 3 = BAD; row 3 0; match 3 3 = BAD");
        R.run("match 0 1 = NOTHING; row 0 1; match 0 1 = NOTHING; match 1 0 = NOTHING; row 1 1; match 0 1 = 0; "
                + "tear 0; match 0 1 = NOTHING");
        R.sentence(7, "SIZE: the other one is shorter, or the first one is empty.");
        R.run("row 0 3; row 1 2; match 0 1 = SIZE; row 1 3; match 0 1 = 0; row 1 4; match 0 1 = 0");
        R.run("row 0 40; row 1 39; match 0 1 = SIZE; match 1 0 = 0");
        R.run("row 0 0; row 1 0; match 0 1 = SIZE; row 1 5; match 0 1 = SIZE; match 1 0 = SIZE; row 0 1; "
                + "match 0 1 = 0");
    }

    private static void sure() {
        R.sentence(8, "Whether the MATCH of two ROWS is SURE: 1, 0. BAD: also the same one.");
        R.edges(SIX, "sure % 5", 0, 4);
        R.edges(SIX, "sure % 0", 1, 5);
        R.edges(SIX, "sure 5 %", 0, 4);
        R.edges(SIX, "sure 0 %", 1, 5);
        R.run("sure 3 3 = BAD; row 3 2; sure 3 3 = BAD; asked = 0");
        R.term("It is SURE, if both ROWS are there, the first one is not empty, the other one not shorter,");
        R.run("sure 0 1 = 0; row 0 2; sure 0 1 = 0; sure 1 0 = 0; row 1 1; sure 0 1 = 0; sure 1 0 = 1; row 1 2; "
                + "sure 0 1 = 1; row 1 3; sure 0 1 = 1; sure 1 0 = 0; tear 0; sure 0 1 = 0; sure 1 0 = 0; finding = 0");
        R.run("row 0 0; row 1 0; sure 0 1 = 0; row 1 3; sure 0 1 = 0; sure 1 0 = 0; row 0 1; sure 0 1 = 1; "
                + "finding = 0");
        R.run("row 0 40; row 1 39; sure 0 1 = 0; sure 1 0 = 1; row 1 40; sure 0 1 = 1");
        R.run("row 0 1; row 1 1; lay 0 0 127; lay 1 0 -128; sure 0 1 = 1; asked = 0");
    }

    private static void rivals() {
        R.term("and no ROW but these two, as long as the first one or longer, has an OFF with it that is not greater.");
        String two = "row 0 2; row 1 2; lay 0 0 10; lay 0 1 20; lay 1 0 10; lay 1 1 25; ";
        for (int rival = 2; rival <= 5; rival++) {
            String it = "row R 2; lay R 0 10; lay R 1 26; sure 0 1 = 1; lay R 1 25; sure 0 1 = 0; lay R 1 24; "
                    + "sure 0 1 = 0; lay R 1 15; sure 0 1 = 0; lay R 1 14; sure 0 1 = 1; lay R 1 20; sure 0 1 = 0; "
                    + "tear R; sure 0 1 = 1";
            R.run(two + it.replace("R", "" + rival));
        }
        R.run(two + "row 2 1; lay 2 0 10; sure 0 1 = 1; row 2 0; sure 0 1 = 1");
        R.run(two + "row 2 40; lay 2 38 10; lay 2 39 25; sure 0 1 = 0; lay 2 39 26; sure 0 1 = 1");
        R.run(two + "row 5 3; lay 5 0 10; lay 5 1 20; sure 0 1 = 0; sure 0 5 = 1; sure 1 0 = 0");
        R.run("row 5 1; row 4 1; sure 5 4 = 1; row 0 1; sure 5 4 = 0; lay 0 0 1; sure 5 4 = 1; row 3 1; sure 5 4 = 0");
    }
}
