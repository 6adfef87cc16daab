/** Promises 9 to 21, sentence by sentence, where they name an edge; with the terms on YEARS, PAINTS and PROOFS. */
public final class ProofEdgesTest {
    private static final Runs R = new Runs();
    private static final String SIX = Runs.each(0, 5, "row # 1");

    public static void main(String[] args) {
        paint();
        sap();
        proof();
        found();
        rings();
        ringYears();
        threads();
        threadYears();
        full();
        strike();
        known();
        told();
        mark();
        span();
        quarrel();
        leftOut();
        heldYear();
        R.end();
    }

    private static void paint() {
        R.term("YEARS 1000 .. 2100.");
        R.run("paint 0 1000 = 1000; paint 0 2100 = 1000; paint 0 999 = BAD; paint 0 2101 = BAD; "
                + "proof 1000 2100 1 = 0; proof 999 2100 1 = BAD; proof 1000 2101 1 = BAD; "
                + "threads 0 1 1000 2100 1 = 1; threads 0 1 999 2100 1 = BAD; threads 0 1 1000 2101 1 = BAD; "
                + "owner 1000 2100 = 1; owner 999 2100 = BAD; owner 1000 2101 = BAD; gaps 1000 2100 = 0; "
                + "gaps 999 2100 = BAD; gaps 1000 2101 = BAD");
        R.term("PAINTS 0 .. 9 have a YEAR in which they were first made (1000 at first;");
        R.run(Runs.each(0, 9, "paint # 150#") + "; " + Runs.each(0, 9, "paint # 1000 = 150#"));
        R.run(Runs.each(0, 9, "paint # 2100 = 1000"));
        R.term("it may be put right: that counts for all times");
        R.run("later 5; found 3 1; later 5; strike 0; later 5; paint 3 1700; span 5 false = 1700; "
                + "span 9 false = 1700; span 4 false = 1000; span 10 false = 1000; told 0 4 = 1700; paint 3 1600; "
                + "span 5 false = 1600");
        R.sentence(9, "The YEAR of a PAINT: what it was. BAD.");
        R.edges("", "paint % 1500", 0, 9);
        R.edges("", "paint 0 %", 1000, 2100);
        R.edges("paint 9 1704", "paint 9 %", 1000, 2100);
        R.run("paint 9 1000 = 1000; paint 9 2100 = 1000; paint 9 999 = BAD; paint 9 2101 = BAD; paint 9 1000 = 2100; "
                + "paint 9 1500 = 1000");
    }

    private static void sap() {
        R.sentence(10, "SAP (0 .. 60, least not above most), USE (0 .. 60): 1. BAD.");
        R.edges("", "sap % 60 0", 0, 60);
        R.edges("", "sap 0 % 0", 0, 60);
        R.edges("", "sap 0 0 %", 0, 60);
        R.edges("", "sap % 40 5", 0, 40);
        R.edges("", "sap 20 % 5", 20, 60);
        R.run("sap 0 0 0 = 1; sap 60 60 60 = 1; sap 61 61 0 = BAD; sap -1 -1 0 = BAD; sap 31 30 0 = BAD; "
                + "sap 30 30 0 = 1");
        R.run("rings 1500 0 1; sap 12 34 5 = 1; told 0 4 = 1512; told 0 5 = 1539; sap 35 34 5 = BAD; told 0 4 = 1512; "
                + "sap 0 34 61 = BAD; told 0 5 = 1539; sap 0 60 60 = 1; told 0 4 = 1500; told 0 5 = 1620; "
                + "sap 60 60 0 = 1; told 0 4 = 1560; told 0 5 = 1560; sap 0 0 0 = 1; told 0 4 = 1500; told 0 5 = 1500");
    }

    private static void proof() {
        R.sentence(11, "A PROOF of KIND 0: its number. BAD: a above b, too; FULL.");
        R.edges("", "proof % 2100 1", 1000, 2100);
        R.edges("", "proof 1000 % 1", 1000, 2100);
        R.edges("", "proof % 1500 1", 1000, 1500);
        R.edges("", "proof 1500 % 1", 1500, 2100);
        R.edges("", "proof 1500 1600 %", 1, 9);
        R.run("proof 1000 1000 1 = 0; proof 2100 2100 9 = 1; proof 1000 2100 5 = 2; proof 1500 1499 1 = BAD; "
                + "proof 999 999 1 = BAD; proof 2101 2101 1 = BAD; proof 1500 1500 1 = 3; told 0 0 = 0; "
                + "told 0 4 = 1000; told 0 5 = 1000; told 1 4 = 2100; told 1 5 = 2100; told 2 4 = 1000; "
                + "told 2 5 = 2100; told 1 1 = 9");
    }

    private static void found() {
        R.sentence(12, "A PAINT was found: its number. BAD; FULL.");
        R.edges("", "found % 1", 0, 9);
        R.edges("", "found 0 %", 1, 9);
        R.term("1 PAINT (a PROOF, too: from the YEAR of a PAINT to 2100)");
        R.run("found 0 1 = 0; found 9 9 = 1; told 0 0 = 1; told 1 1 = 9; told 0 4 = 1000; told 0 5 = 2100; "
                + "paint 0 2100; told 0 4 = 2100; told 0 5 = 2100; told 1 4 = 1000; paint 9 1001; told 1 4 = 1001; "
                + "told 1 5 = 2100");
    }

    private static void rings() {
        R.sentence(13, "RINGS: its number. BAD; FULL.");
        R.edges("", "rings % 0 1", 1000, 2000);
        R.edges("", "rings 1500 % 1", 0, 30);
        R.edges("", "rings 1500 0 %", 1, 9);
        R.run("rings 1000 0 1 = 0; rings 2000 30 9 = 1; told 0 0 = 2; told 1 1 = 9; rings 999 0 1 = BAD; "
                + "rings 2001 0 1 = BAD");
    }

    private static void ringYears() {
        R.term("2 RINGS (a PROOF: the last ring is of YEAR r (1000 .. 2000), s of them are sap (0 .. 30):");
        R.run("sap 0 0 0; rings 1000 0 1 = 0; rings 2000 30 1 = 1; told 0 0 = 2; told 0 4 = 1000; told 0 5 = 1000; "
                + "told 1 4 = 2000; told 1 5 = 2000; mark 0 2 = 0; mark 1 2 = 30; rings 999 0 1 = BAD; "
                + "rings 2001 0 1 = BAD; rings 1500 -1 1 = BAD; rings 1500 31 1 = BAD");
        R.term("of SAP there are least to most rings (8 to 24 at first);");
        R.run("rings 1000 0 1; told 0 4 = 1008; told 0 5 = 1034; rings 2000 0 1; told 1 4 = 2008; told 1 5 = 2034");
        R.term("from r and what is lacking of the least (0 at least) to r and what is lacking of the most, and USE "
                + "(10 at first) more;");
        R.run("sap 5 5 10; rings 1500 5 1; told 0 4 = 1500; told 0 5 = 1510; sap 5 5 0; told 0 5 = 1500; sap 5 5 60; "
                + "told 0 5 = 1560; sap 5 5 61 = BAD; told 0 5 = 1560");
        R.run("rings 1500 7 1; rings 1500 8 1; rings 1500 9 1; rings 1500 30 1; told 0 4 = 1501; told 1 4 = 1500; "
                + "told 2 4 = 1500; told 3 4 = 1500");
        R.run("rings 1500 23 1; rings 1500 24 1; rings 1500 25 1; rings 1500 30 1; told 0 5 = 1511; told 1 5 = 1510; "
                + "told 2 5 = 1510; told 3 5 = 1510");
        R.run("sap 30 30 0; rings 1500 30 1; told 0 4 = 1500; told 0 5 = 1500; sap 31 31 0; told 0 4 = 1501; "
                + "told 0 5 = 1501");
        R.term("2100 at most");
        R.run("sap 0 60 60; rings 2000 21 1; rings 2000 20 1; rings 2000 19 1; rings 2000 0 1; told 0 5 = 2099; "
                + "told 1 5 = 2100; told 2 5 = 2100; told 3 5 = 2100; mark 3 0 = 101; span 0 true = 2099");
        R.run("sap 60 60 40; rings 2000 0 1; told 0 4 = 2060; told 0 5 = 2100; sap 60 60 41; told 0 5 = 2100; "
                + "mark 0 0 = 41");
    }

    private static void threads() {
        R.sentence(14, "THREADS of a ROW in another one: its number. BAD: also the same ROW, a above b; FULL.");
        R.edges(SIX, "threads % 5 1500 1600 1", 0, 4);
        R.edges(SIX, "threads % 0 1500 1600 1", 1, 5);
        R.edges(SIX, "threads 5 % 1500 1600 1", 0, 4);
        R.edges(SIX, "threads 0 % 1500 1600 1", 1, 5);
        R.edges("", "threads 0 1 % 2100 1", 1000, 2100);
        R.edges("", "threads 0 1 1000 % 1", 1000, 2100);
        R.edges("", "threads 0 1 % 1500 1", 1000, 1500);
        R.edges("", "threads 0 1 1500 % 1", 1500, 2100);
        R.edges("", "threads 0 1 1500 1600 %", 1, 9);
        R.run("threads 3 3 1500 1600 1 = BAD; threads 3 4 1500 1600 9 = 0; threads 4 3 1500 1500 1 = 1; told 0 0 = 3; "
                + "told 0 1 = 9; finding = 0; row 3 1; threads 3 3 1500 1600 1 = BAD");
    }

    private static void threadYears() {
        R.term("3 THREADS (a PROOF: of two ROWS as they are when it is asked: from YEAR a to b, if the first one's "
                + "match with the other one is SURE, else from 1000 to 2100).");
        R.run("threads 0 1 1610 1620 1; told 0 4 = 1000; told 0 5 = 2100; row 0 1; told 0 4 = 1000; row 1 1; "
                + "told 0 4 = 1610; told 0 5 = 1620; row 5 1; told 0 4 = 1000; told 0 5 = 2100; lay 5 0 1; "
                + "told 0 4 = 1610; row 0 2; told 0 4 = 1000; row 1 2; told 0 5 = 1620; row 0 0; told 0 5 = 2100; "
                + "row 0 2; told 0 4 = 1610; tear 1; told 0 4 = 1000; told 0 5 = 2100");
        R.run("row 0 1; row 1 1; later 5; threads 0 1 1610 1620 1; later 5; span 5 false = 1610; span 10 true = 1620; "
                + "tear 0; span 5 false = 1000; span 10 true = 2100; later 5; row 0 1; span 5 true = 1620; "
                + "span 4 true = 2100");
        R.run("row 0 1; row 1 2; threads 0 1 1610 1620 1; threads 1 0 1700 1710 1; told 0 4 = 1610; told 0 5 = 1620; "
                + "mark 0 3 = 1; told 1 4 = 1000; told 1 5 = 2100; mark 1 3 = 0; row 0 2; told 1 4 = 1700; "
                + "quarrel 0 = 0; asked = 1; row 2 2; quarrel 0 = NONE");
        R.run("row 0 1; row 1 1; threads 0 1 1000 1000 1; threads 1 0 2100 2100 1; told 0 4 = 1000; told 0 5 = 1000; "
                + "told 1 4 = 2100; told 1 5 = 2100");
    }

    private static void full() {
        R.term("each with a WEIGHT (1 .. 9): 0 PROOF (from YEAR a to b),");
        R.run("proof 1500 1501 1 = 0; proof 1600 1601 9 = 1; proof 1500 1501 0 = BAD; proof 1500 1501 10 = BAD; "
                + "told 0 1 = 1; told 1 1 = 9; told 1 4 = 1600; told 1 5 = 1601; found 0 0 = BAD; found 0 10 = BAD; "
                + "rings 1500 0 0 = BAD; rings 1500 0 10 = BAD; threads 0 1 1500 1501 0 = BAD; "
                + "threads 0 1 1500 1501 10 = BAD; count 1 = 2");
        R.term("PROOFS 0, 1, .. (24 at most) are of a KIND");
        String[] kinds = {"proof 1500 1600 1", "found 0 1", "rings 1500 0 1", "threads 0 1 1500 1600 1"};
        for (String last : kinds) {
            R.run("23x proof 1000 2100 1; " + last + " = 23; told 23 1 = 1; count 1 = 24; proof 1500 1600 1 = FULL; "
                    + "found 0 1 = FULL; rings 1500 0 1 = FULL; threads 0 1 1500 1600 1 = FULL; count 1 = 24; "
                    + "told 24 0 = BAD");
        }
        R.run("24x found 0 1; strike 0; strike 23; proof 1500 1600 1 = FULL; found 0 1 = FULL; rings 1500 0 1 = FULL; "
                + "threads 0 1 1500 1600 1 = FULL; count 1 = 24; count 2 = 22");
        R.run("proof 1500 1600 1 = 0; found 0 1 = 1; rings 1500 0 1 = 2; threads 0 1 1500 1600 1 = 3; strike 3; "
                + "proof 1500 1600 1 = 4; told 0 0 = 0; told 1 0 = 1; told 2 0 = 2; told 3 0 = 3; told 4 0 = 0");
    }

    private static void strike() {
        R.sentence(15, "A PROOF is STRUCK: 1. BAD; STATE: it is.");
        R.edges("3x proof 1500 1600 1", "strike %", 0, 2);
        R.edges("24x proof 1500 1600 1", "strike %", 0, 23);
        R.run("strike 0 = BAD; proof 1500 1600 1; strike 0 = 1; strike 0 = STATE; told 0 3 = 0; later 5; "
                + "strike 0 = STATE; told 0 3 = 0");
        R.run("later 30000; proof 1500 1600 1; strike 0 = 1; told 0 2 = 30000; told 0 3 = 30000; strike 0 = STATE; "
                + "span 30000 false = 1000");
        R.run("proof 1500 1600 1; found 0 1; rings 1500 0 1; threads 0 1 1500 1600 1; strike 3 = 1; strike 2 = 1; "
                + "strike 1 = 1; count 2 = 1; told 0 3 = NONE; strike 0 = 1; count 2 = 0; count 1 = 4");
    }

    private static void known() {
        R.term("Each is known from the day on which it is told, till the day on which it is STRUCK (then not any "
                + "more).");
        String told = "later 10; proof 1500 1600 7; later 10; strike 0; later 10; ";
        R.run(told + "span 9 false = 1000; span 10 false = 1500; span 19 true = 1600; span 20 true = 2100; "
                + "span 30000 true = 2100");
        R.run(told + "heldYear 9 = 1000; heldYear 10 = 1500; heldYear 19 = 1500; heldYear 20 = 1000");
        R.run("later 10; proof 1500 1600 7; proof 1700 1800 8; later 10; strike 0; leftOut 9 = 0; leftOut 10 = 7; "
                + "asked = 1; leftOut 19 = 7; leftOut 20 = 0; asked = 0; quarrel 9 = NONE; quarrel 10 = 0; "
                + "quarrel 19 = 0; quarrel 20 = NONE");
        R.run("proof 1500 1600 1; span 0 false = 1500; span 30000 false = 1500; later 1; strike 0; "
                + "span 0 false = 1500; span 1 false = 1000");
        R.run("later 4; proof 1500 1600 1; strike 0; span 3 false = 1000; span 4 false = 1000; span 5 false = 1000; "
                + "heldYear 4 = 1000");
        R.run("later 29999; proof 1500 1600 1; later 1; strike 0; span 29998 false = 1000; span 29999 false = 1500; "
                + "span 30000 false = 1000");
    }

    private static void told() {
        R.sentence(16, "Of a PROOF: 0 its KIND, 1 WEIGHT, 2 the day on which it was told, 3 that on which it was "
                + "STRUCK (NONE),");
        R.edges("proof 1500 1600 1; strike 0", "told 0 %", 0, 5);
        R.edges("3x proof 1500 1600 1", "told % 0", 0, 2);
        R.run("told 0 0 = BAD; proof 1500 1600 9; told 0 0 = 0; told 0 1 = 9; told 0 2 = 0; told 0 3 = NONE; "
                + "told 0 4 = 1500; told 0 5 = 1600; told 0 6 = BAD; told 0 -1 = BAD; told 1 0 = BAD; told -1 0 = BAD");
        R.run("later 30000; threads 0 1 1500 1600 1; told 0 0 = 3; told 0 1 = 1; told 0 2 = 30000; told 0 3 = NONE; "
                + "strike 0; told 0 3 = 30000");
        R.sentence(16, "4, 5 the YEARS from and to which it is now. BAD.");
        R.run("found 2 1; rings 1500 4 1; threads 0 1 1500 1600 1; later 5; strike 0; strike 1; strike 2; "
                + "paint 2 1704; told 0 4 = 1704; sap 5 6 0; told 1 4 = 1501; told 1 5 = 1502; row 0 1; row 1 1; "
                + "told 2 4 = 1500; told 2 5 = 1600");
    }

    private static void mark() {
        String four = "proof 1500 1600 1; found 9 1; rings 1500 30 1; threads 0 1 1500 1600 1; ";
        R.sentence(17, "What a PROOF that IS of a KIND tells: a PAINT that PAINT, RINGS how many of them are sap, "
                + "THREADS whether the match is SURE (1, 0),");
        R.run("found 0 1; found 9 1; rings 1500 0 1; rings 1500 30 1; mark 0 1 = 0; mark 1 1 = 9; mark 2 2 = 0; "
                + "mark 3 2 = 30");
        R.run(four + "mark 3 3 = 0; row 0 1; row 1 1; mark 3 3 = 1; row 2 1; mark 3 3 = 0; lay 2 0 1; mark 3 3 = 1; "
                + "tear 1; mark 3 3 = 0");
        R.run(four + "strike 1; strike 2; strike 3; mark 1 1 = 9; mark 2 2 = 30; mark 3 3 = 0; mark 1 0 = 1101");
        R.sentence(17, "any (0) how many YEARS are in it.");
        R.run(four + "mark 0 0 = 101; mark 1 0 = 1101; mark 2 0 = 11; mark 3 0 = 1101; paint 9 2100; mark 1 0 = 1; "
                + "sap 0 0 0; mark 2 0 = 1; row 0 1; row 1 1; mark 3 0 = 101");
        R.run("proof 1000 1000 1; proof 2100 2100 1; proof 1000 2100 1; mark 0 0 = 1; mark 1 0 = 1; mark 2 0 = 1101");
        R.sentence(17, "BAD: also the KIND; UNLIKE.");
        R.edges("threads 0 1 1500 1600 1", "mark 0 %", 0, 3);
        R.edges("3x proof 1500 1600 1", "mark % 0", 0, 2);
        R.run("mark 0 0 = BAD; mark 0 1 = BAD; " + four + "mark 0 4 = BAD; mark 0 -1 = BAD; mark 4 1 = BAD; "
                + "mark -1 2 = BAD; mark 3 4 = BAD");
        R.run(four + "mark 0 1 = UNLIKE; mark 0 2 = UNLIKE; mark 0 3 = UNLIKE; mark 1 2 = UNLIKE; mark 1 3 = UNLIKE; "
                + "mark 2 1 = UNLIKE; mark 2 3 = UNLIKE; mark 3 1 = UNLIKE; mark 3 2 = UNLIKE; findings 3 = 9");
    }

    private static void span() {
        R.sentence(18, "SPAN as of a day (0 .. 30000): the first YEAR (late: the last); NONE: there is none. BAD.");
        R.edges("later 7; proof 1500 1600 1", "span % false", 0, 30000);
        R.edges("", "span % true", 0, 30000);
        R.term("SPAN as of a day: the YEARS that are in all PROOFS known then.");
        R.run("span 0 false = 1000; span 0 true = 2100; span 30000 false = 1000; span 30000 true = 2100; finding = 0");
        R.run("proof 1500 1600 1; proof 1600 1700 1; span 0 false = 1600; span 0 true = 1600; proof 1000 1599 1; "
                + "span 0 false = NONE; span 0 true = NONE; strike 2; span 0 false = 1600");
        R.run("proof 1500 1600 1; proof 1601 1700 1; span 0 false = NONE; span 0 true = NONE; asked = 0; finding = 0");
        R.run("proof 1000 1000 1; span 0 false = 1000; span 0 true = 1000; proof 2100 2100 1; span 0 false = NONE; "
                + "strike 0; span 0 false = 2100; span 0 true = 2100");
        R.run("proof 1000 1500 1; proof 1400 2100 1; proof 1200 1450 1; span 0 false = 1400; span 0 true = 1450");
        R.run("22x proof 1000 2100 1; proof 1500 2100 1; proof 1000 1500 1; span 0 false = 1500; span 0 true = 1500");
        R.run(Runs.each(0, 9, "proof 150# 1600 1") + "; " + Runs.each(0, 9, "proof 151# 1600 1") + "; "
                + Runs.each(0, 3, "proof 152# 1600 1") + "; span 0 false = 1523; span 0 true = 1600; strike 23; "
                + "span 0 false = 1522");
    }

    private static void quarrel() {
        R.sentence(19, "The first QUARREL as of a day (by the lesser PROOF, then by the other one): the lesser; "
                + "the other one by asked(); NONE. BAD.");
        R.edges("proof 1500 1600 1; proof 1700 1800 1", "quarrel %", 0, 30000);
        R.run("quarrel -1 = BAD; quarrel min = BAD; quarrel 0 = NONE; quarrel 30000 = NONE; quarrel 30001 = BAD; "
                + "quarrel max = BAD");
        R.run("quarrel 0 = NONE; proof 1500 1600 1; quarrel 0 = NONE; proof 1601 1700 1; quarrel 0 = 0; asked = 1");
        R.run("proof 1000 2100 1; proof 1500 1500 1; proof 1600 1600 1; proof 1400 1400 1; quarrel 0 = 1; asked = 2; "
                + "strike 2; quarrel 0 = 1; asked = 3; strike 1; quarrel 0 = NONE; asked = 3");
        R.run("proof 1500 1600 1; proof 1000 2100 1; proof 1550 1560 1; proof 1570 1580 1; proof 1700 1800 1; "
                + "quarrel 0 = 0; asked = 4; strike 0; quarrel 0 = 2; asked = 3");
        R.run("22x proof 1000 2100 1; proof 1000 1499 1; proof 1500 2100 1; quarrel 0 = 22; asked = 23");
        R.run("proof 1000 1499 1; 22x proof 1000 2100 1; proof 1500 2100 1; quarrel 0 = 0; asked = 23");
        R.run("24x proof 1000 2100 1; quarrel 0 = NONE; asked = 0");
        R.term("A QUARREL: two PROOFS known then of which no YEAR is in both.");
        R.run("proof 1500 1600 1; proof 1600 1700 1; proof 1400 1500 1; quarrel 0 = 1; asked = 2; strike 2; "
                + "quarrel 0 = NONE");
        R.run("proof 1600 1700 1; proof 1500 1600 1; quarrel 0 = NONE; proof 1000 1599 1; quarrel 0 = 0; asked = 2");
        R.run("proof 1500 1600 1; proof 1500 1600 1; proof 1550 1560 1; proof 1555 1555 1; quarrel 0 = NONE");
        R.run("proof 1000 1000 1; proof 2100 2100 1; quarrel 0 = 0; asked = 1; paint 0 1001; found 0 1; "
                + "quarrel 0 = 0; strike 1; quarrel 0 = 0; asked = 2; paint 0 1000; quarrel 0 = NONE; asked = 2");
    }

    private static void leftOut() {
        R.sentence(20, "LEFT OUT as of a day: the sum of their WEIGHTS; the set of them by asked(). BAD.");
        R.edges("", "leftOut %", 0, 30000);
        R.edges("later 7; proof 1500 1600 1; proof 1700 1800 9", "leftOut %", 0, 30000);
        R.run("leftOut 0 = 0; asked = 0; proof 1500 1600 9; leftOut 0 = 0; asked = 0; proof 1601 1700 9; "
                + "leftOut 0 = 9; asked = 2");
        R.run(Runs.each(0, 9, "proof 150# 150# 9") + "; " + Runs.each(0, 9, "proof 151# 151# 9") + "; "
                + Runs.each(0, 3, "proof 152# 152# 9") + "; leftOut 0 = 207; asked = 16777214; strike 0; "
                + "leftOut 0 = 198; asked = 16777212");
        R.run("23x proof 1500 1600 1; proof 1700 1800 9; leftOut 0 = 9; asked = 8388608; later 1; strike 0; strike 1; "
                + "strike 2; later 1; leftOut 0 = 9; leftOut 2 = 9; asked = 8388608");
        R.run("gaps 1500 1509; asked = 10; leftOut 0 = 0; asked = 0");
        R.term("LEFT OUT as of a day: the earliest YEAR with the greatest sum of WEIGHTS of PROOFS that hold it; "
                + "those known then that do not hold it.");
        R.run("proof 1700 1800 5; proof 1500 1600 5; leftOut 0 = 5; asked = 1; heldYear 0 = 1500; proof 1800 1900 1; "
                + "leftOut 0 = 5; asked = 2; heldYear 0 = 1800; proof 1600 1650 1; leftOut 0 = 6; asked = 5; "
                + "heldYear 0 = 1600; proof 1400 1500 1; leftOut 0 = 7; asked = 13; heldYear 0 = 1500");
        R.run("proof 1500 1600 4; proof 1550 1560 5; proof 1700 1800 9; leftOut 0 = 9; asked = 4; heldYear 0 = 1550");
        R.run("proof 1500 1600 4; proof 1550 1560 4; proof 1700 1800 9; leftOut 0 = 8; asked = 3; heldYear 0 = 1700");
    }

    private static void heldYear() {
        R.sentence(21, "The YEAR by which that is. BAD.");
        R.edges("", "heldYear %", 0, 30000);
        R.edges("later 7; proof 1500 1600 1", "heldYear %", 0, 30000);
        R.run("heldYear 0 = 1000; proof 2100 2100 1; heldYear 0 = 2100; proof 1000 1000 1; heldYear 0 = 1000; "
                + "proof 2099 2100 1; heldYear 0 = 2100; proof 1000 2099 1; heldYear 0 = 1000; strike 1; "
                + "heldYear 0 = 2099");
        R.run("proof 1500 1600 1; proof 1600 1700 1; heldYear 0 = 1600; strike 1; heldYear 0 = 1500; asked = 0");
        R.run("paint 0 1704; found 0 9; heldYear 0 = 1704; rings 1500 0 9; heldYear 0 = 1508; asked = 0");
    }
}
