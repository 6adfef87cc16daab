/** Promises 30 to 37, sentence by sentence, where they name an edge; with the terms on OWNERS, OPINIONS and LAWS. */
public final class ContractEdgesTest {
    private static final Runs R = new Runs();
    private static final String NO_HAND = "hand 0 0; hand 1 0; hand 2 0; hand 3 0; ";

    public static void main(String[] args) {
        owner();
        gaps();
        opinion();
        mean();
        spread();
        sold();
        law();
        lawInForce();
        tooLate();
        notShown();
        paidBack();
        claimRefused();
        R.end();
    }

    private static void owner() {
        R.sentence(30, "An OWNER from YEAR a to b: how many there are. BAD; FULL.");
        R.edges("", "owner % 2100", 1000, 2100);
        R.edges("", "owner 1000 %", 1000, 2100);
        R.edges("", "owner % 1500", 1000, 1500);
        R.edges("", "owner 1500 %", 1500, 2100);
        R.run("owner 1000 1000 = 1; owner 2100 2100 = 2; owner 1500 1499 = BAD; owner 1000 2100 = 3; count 5 = 3");
        R.term("OWNERS (20 at most): from a YEAR to a YEAR.");
        R.run("19x owner 1500 1600; owner 1700 1710 = 20; count 5 = 20; gaps 1700 1710 = 0; owner 1800 1810 = FULL; "
                + "gaps 1800 1810 = 11; owner 1810 1800 = BAD; owner 999 1800 = BAD; owner 1800 2101 = BAD; "
                + "count 5 = 20");
    }

    private static void gaps() {
        R.sentence(31, "GAPS from YEAR a to b: how many YEARS; the longest run by asked(). BAD.");
        R.edges("", "gaps % 2100", 1000, 2100);
        R.edges("", "gaps 1000 %", 1000, 2100);
        R.edges("owner 1400 1450", "gaps % 1500", 1000, 1500);
        R.edges("owner 1550 1600", "gaps 1500 %", 1500, 2100);
        R.run("gaps 1000 2100 = 1101; asked = 1101; gaps 1000 1000 = 1; asked = 1; gaps 2100 2100 = 1; asked = 1; "
                + "gaps 1501 1500 = BAD; asked = 1");
        R.term("GAPS from YEAR a to b: YEARS in which nobody owned it; the longest run of them.");
        R.run("owner 1000 2100; gaps 1000 2100 = 0; asked = 0; gaps 1500 1500 = 0; asked = 0");
        R.run("owner 1001 2099; gaps 1000 2100 = 2; asked = 1; gaps 1000 1000 = 1; gaps 2100 2100 = 1; "
                + "gaps 1001 2099 = 0; asked = 0");
        R.run("owner 1500 1600; gaps 1500 1600 = 0; gaps 1499 1600 = 1; asked = 1; gaps 1500 1601 = 1; asked = 1; "
                + "gaps 1499 1601 = 2; asked = 1; gaps 1490 1499 = 10; asked = 10; gaps 1490 1500 = 10; "
                + "gaps 1601 1610 = 10; asked = 10; gaps 1600 1610 = 10; gaps 1550 1560 = 0; asked = 0");
        R.run("owner 1600 1610; owner 1700 1710; gaps 1500 1510 = 11; asked = 11; gaps 1500 1598 = 99; asked = 99; "
                + "gaps 1500 1599 = 100; asked = 100; gaps 1500 1600 = 100; asked = 100; gaps 1800 1810 = 11; "
                + "asked = 11; gaps 1712 1720 = 9; gaps 1711 1720 = 10; gaps 1710 1720 = 10; asked = 10; "
                + "gaps 1620 1630 = 11; asked = 11; gaps 1611 1699 = 89; asked = 89");
        R.run("owner 1600 1609; owner 1610 1619; gaps 1600 1619 = 0; owner 1621 1630; gaps 1600 1630 = 1; asked = 1; "
                + "gaps 1590 1640 = 21; asked = 10; gaps 1595 1640 = 16; asked = 10; gaps 1590 1635 = 16; asked = 10");
        R.run("owner 1500 1700; owner 1600 1610; gaps 1400 1800 = 200; asked = 100; owner 1500 1500; owner 1700 1700; "
                + "gaps 1500 1700 = 0; asked = 0");
        R.run("owner 1700 1710; owner 1600 1610; owner 1650 1655; gaps 1611 1699 = 83; asked = 44; "
                + "gaps 1600 1710 = 83; asked = 44; gaps 1611 1650 = 39; asked = 39");
        R.run(Runs.each(0, 9, "owner 15#1 15#1") + "; " + Runs.each(0, 9, "owner 16#1 16#1") + "; "
                + "gaps 1500 1700 = 181; asked = 9; gaps 1000 2100 = 1081; asked = 501");
    }

    private static void opinion() {
        R.sentence(32, "An OPINION: how many there are. BAD; FULL.");
        R.edges("", "opinion % 0 50 true", 0, 9);
        R.edges("", "opinion 0 % 50 false", 0, 3);
        R.edges("", "opinion 0 0 % true", 0, 100);
        R.run("opinion 0 0 0 true = 1; opinion 9 3 100 false = 2; opinion 10 0 0 true = BAD; "
                + "opinion 0 4 0 true = BAD; opinion 0 0 101 true = BAD; count 6 = 2");
        R.term("OPINIONS (30 at most): of an expert 0 .. 9, for a HAND, how sure (0 .. 100), whether the price was "
                + "known.");
        R.run("29x opinion 0 0 50 false; opinion 9 3 70 false = 30; count 6 = 30; mean 3 false = 70; "
                + "opinion 9 3 90 false = FULL; mean 3 false = 70; opinion 9 3 101 false = BAD; spread = 0; "
                + "asked = 0; count 6 = 30");
        R.term("BLIND are those that did not know it.");
        R.run("opinion 1 2 10 false; opinion 1 2 90 true; mean 2 false = 10; mean 2 true = 90; spread = NONE; "
                + "opinion 1 2 80 true; spread = NONE; opinion 1 2 12 false; spread = 2; mean 2 false = 11; "
                + "mean 2 true = 85");
        R.run("30x opinion 0 0 100 true; mean 0 true = 100; opinion 0 0 0 true = FULL; opinion 0 0 0 false = FULL; "
                + "mean 0 false = NOUGHT; mean 0 true = 100");
    }

    private static void mean() {
        R.sentence(33, "How sure BLIND ones are for a HAND, on the mean, cut (knew: the others). BAD; NOUGHT.");
        R.edges(Runs.each(0, 3, "opinion 0 # 50 true"), "mean % true", 0, 3);
        R.edges(Runs.each(0, 3, "opinion 0 # 50 false"), "mean % false", 0, 3);
        R.run("mean 0 false = NOUGHT; mean 0 true = NOUGHT; opinion 0 0 0 false; mean 0 false = 0; "
                + "mean 0 true = NOUGHT; mean 1 false = NOUGHT; opinion 0 0 100 true; mean 0 true = 100; "
                + "mean 0 false = 0; mean 3 true = NOUGHT; findings 4 = 5");
        R.run("opinion 0 1 1 false; opinion 1 1 0 false; mean 1 false = 0; opinion 2 1 1 false; mean 1 false = 0; "
                + "opinion 2 1 2 false; mean 1 false = 1; opinion 0 1 100 false; mean 1 false = 20; "
                + "opinion 3 1 99 true; mean 1 false = 20; mean 1 true = 99");
        R.run("opinion 0 0 99 false; opinion 0 0 100 false; mean 0 false = 99; opinion 0 0 100 false; "
                + "mean 0 false = 99; opinion 0 1 0 false; mean 0 false = 99; asked = 0");
    }

    private static void spread() {
        R.sentence(34, "The greatest difference of how sure one expert was of one HAND in two BLIND OPINIONS;");
        R.run("opinion 0 0 0 false; opinion 0 0 100 true; opinion 0 1 100 false; opinion 1 0 100 false; "
                + "spread = NONE; opinion 0 0 0 false; spread = 0; asked = 0; opinion 0 0 1 false; spread = 1; "
                + "opinion 0 0 100 false; spread = 100; asked = 0");
        R.run("opinion 9 3 100 false; opinion 9 3 0 false; spread = 100; asked = 9");
        R.run("opinion 5 0 50 false; opinion 5 0 60 false; opinion 5 0 40 false; spread = 20; asked = 5; "
                + "opinion 5 1 0 false; opinion 5 1 21 false; spread = 21");
        R.run("opinion 7 0 50 true; opinion 7 0 10 true; spread = NONE; opinion 7 0 20 false; spread = NONE; "
                + "asked = 0");
        R.sentence(34, "the expert by asked() (the least of alike ones); NONE: no two such.");
        R.run("spread = NONE; asked = 0; gaps 1500 1504; spread = NONE; asked = 5; opinion 8 0 1 false; "
                + "spread = NONE; asked = 5; finding = 0");
        R.run("opinion 8 0 10 false; opinion 8 0 20 false; spread = 10; asked = 8; opinion 2 1 20 false; "
                + "opinion 2 1 30 false; spread = 10; asked = 2; opinion 3 1 20 false; opinion 3 1 30 false; "
                + "spread = 10; asked = 2; opinion 9 2 0 false; opinion 9 2 11 false; spread = 11; asked = 9; "
                + "opinion 0 3 90 false; opinion 0 3 79 false; spread = 11; asked = 0");
        R.run("opinion 4 0 5 false; opinion 4 0 5 false; spread = 0; asked = 4; opinion 3 0 5 false; "
                + "opinion 3 0 5 false; spread = 0; asked = 3");
        R.run("opinion 1 0 0 false; 28x opinion 2 0 50 false; opinion 1 0 100 false; spread = 100; asked = 1");
    }

    private static void sold() {
        R.term("THE CONTRACT: sold on a day (TODAY at most) for a price (1 .. 1000000), promised a HAND.");
        R.edges("", "sold % 5 0", 0, 0);
        R.edges("later 50; law 0 30000 100 10; sold 20 7 1", "sold % 5 0", 0, 50);
        R.edges("later 30000", "sold % 5 0", 0, 30000);
        R.edges("later 50; law 0 30000 100 10", "sold 20 % 0", 1, 1000000);
        R.edges("later 50; law 0 30000 100 10", "sold 20 5 %", 0, 3);
        R.run("law 0 0 100 0; sold 0 1 0 = 1; claim = 1; asked = 1; sold 0 1000000 0 = 1; claim = 1; asked = 1000000; "
                + "sold 0 0 0 = BAD; sold 0 1000001 0 = BAD; sold 1 5 0 = BAD; claim = 1; asked = 1000000");
        R.sentence(35, "THE CONTRACT (in the place of one that there was): 1. BAD.");
        R.run("law 0 5 50 0; hand 0 99; sold 0 7 0; claim = 3; sold 0 8 3 = 1; claim = 1; asked = 8; sold 0 9 0 = 1; "
                + "claim = 3; sold 0 9 4 = BAD; claim = 3");
        R.run("law 0 5 100 0; sold 0 7 0; later 6; claim = 2; sold 1 8 0 = 1; claim = 1; asked = 8; sold 0 9 0 = 1; "
                + "claim = 2");
    }

    private static void law() {
        R.sentence(36, "A LAW: its number. BAD; FULL.");
        R.edges("", "law % 5 50 5", 0, 30000);
        R.edges("", "law 5 % 50 5", 0, 30000);
        R.edges("", "law 5 5 % 5", 0, 100);
        R.edges("", "law 5 5 50 %", 0, 100);
        R.term("with a rate (0 .. 100):");
        R.run("later 365; sold 0 100 0; law 0 365 100 0 = 0; claim = 1; asked = 100; law 0 365 100 100 = 1; "
                + "claim = 1; asked = 200; law 0 365 100 101 = BAD; law 0 365 100 -1 = BAD; claim = 1; asked = 200");
        R.term("LAWS (8 at most), from a day on:");
        R.run(Runs.each(0, 7, "law 0 0 0 0 = #") + "; law 0 0 100 0 = FULL; law 0 0 101 0 = BAD; law -1 0 0 0 = BAD; "
                + "count 7 = 8");
        R.run("sold 0 9 0; 7x law 0 0 0 0; claim = 3; law 0 0 100 0 = 7; claim = 1; law 0 0 0 0 = FULL; claim = 1; "
                + "asked = 9");
    }

    private static void lawInForce() {
        R.term("in force is that with the latest day not after the sale, of alike ones the last told.");
        R.run("later 10; sold 5 36500 0; law 6 100 100 1; claim = STATE; law 5 100 100 2; claim = 1; asked = 36510; "
                + "law 4 100 100 3; claim = 1; asked = 36510; law 5 100 100 4; claim = 1; asked = 36520; "
                + "law 6 100 100 5; claim = 1; asked = 36520; law 0 100 100 6; claim = 1; asked = 36520; "
                + "sold 4 36500 0; claim = 1; asked = 36518; sold 3 36500 0; claim = 1; asked = 36542; "
                + "sold 6 36500 0; claim = 1; asked = 36520");
        R.run("law 0 0 100 0; sold 0 7 0; claim = 1; asked = 7; law 1 0 0 0; claim = 1; later 1; sold 1 7 0; "
                + "claim = 3; sold 0 7 0; claim = 2");
        R.run("later 30000; sold 30000 7 0; law 30000 0 100 0; claim = 1; sold 29999 7 0; claim = STATE; "
                + "law 29999 0 100 0; claim = 2; law 29999 1 100 0; claim = 1");
        R.run("sold 0 36500 0; " + Runs.each(1, 8, "law 0 9 100 #") + "; later 1; claim = 1; asked = 36508");
    }

    private static void tooLate() {
        R.term("back within d days from the sale (0 .. 30000),");
        R.run("law 0 0 100 0; sold 0 7 0; claim = 1; later 1; claim = 2; sold 1 8 0; claim = 1; asked = 8");
        R.run("law 0 10 100 0; later 5; sold 5 7 0; later 9; claim = 1; later 1; claim = 1; later 1; claim = 2; "
                + "later 29984; claim = 2");
        R.run("law 0 30000 100 0; sold 0 7 0; later 30000; claim = 1; asked = 7");
        R.run("law 0 29999 100 0; sold 0 7 0; later 29999; claim = 1; later 1; claim = 2; asked = 7");
        R.term("A CLAIM TODAY: 1 it goes back, 2 too late, 3 not shown (in this order: 2, 3, 1).");
        R.run("law 0 0 0 0; sold 0 7 0; claim = 3; later 1; claim = 2; asked = 0");
    }

    private static void notShown() {
        R.term("if the CHANCE of the HAND is below u by 100 (u 0 .. 100),");
        R.run("law 0 0 25 0; sold 0 7 0; claim = 3; law 0 0 26 0; claim = 1; law 0 0 24 0; claim = 3; hand 1 2; "
                + "claim = 1; law 0 0 20 0; claim = 3; law 0 0 21 0; claim = 1; asked = 7");
        R.run("hand 0 0; law 0 0 0 0; sold 0 7 0; claim = 3; law 0 0 1 0; claim = 1");
        R.run("hand 1 0; hand 2 0; hand 3 0; law 0 0 100 0; sold 0 7 0; claim = 3; asked = 0; sold 0 7 1; claim = 1; "
                + "asked = 7");
        R.run("hand 1 99; hand 2 0; hand 3 0; law 0 0 1 0; sold 0 7 0; claim = 3; hand 2 1; claim = 1; law 0 0 0 0; "
                + "claim = 3");
        R.run("hand 0 99; hand 1 1; hand 2 0; hand 3 0; law 0 0 99 0; sold 0 7 0; claim = 3; law 0 0 100 0; "
                + "claim = 1; hand 1 2; law 0 0 99 0; claim = 1");
        R.run("hand 0 1; hand 1 2; hand 2 0; hand 3 0; law 0 0 33 0; sold 0 7 0; claim = 3; law 0 0 34 0; claim = 1");
        R.run("law 0 0 26 0; sold 0 7 0; test 1 0 NONE; often 0 0 9; claim = 1; done 0 true; claim = 3; asked = 7");
        manyTests();
    }

    /** A HAND as likely as can be with ten TESTS: 100 times the SCORE still fits. */
    private static void manyTests() {
        String ten = "hand 0 99; hand 1 1; hand 2 0; hand 3 0; 10x test 1 0 NONE; "
                + Runs.each(0, 9, "often # 0 16; often # 1 16; done # true") + "; sold 0 7 0; ";
        R.run(ten + "law 0 0 99 0; claim = 3; law 0 0 100 0; claim = 1; asked = 7");
        R.run(ten + "sold 0 7 1; law 0 0 1 0; claim = 3; law 0 0 2 0; claim = 1");
        R.run(ten + "hand 1 0; law 0 0 100 0; claim = 3; sold 0 7 1; law 0 0 0 0; claim = 3; law 0 0 1 0; claim = 1");
    }

    private static void paidBack() {
        R.term("What is paid back: the price, and price times rate times days since the sale by 36500, cut.");
        R.run("law 0 30000 100 1; sold 0 36499 0; claim = 1; asked = 36499; later 1; claim = 1; asked = 36499; "
                + "sold 0 36500 0; claim = 1; asked = 36501");
        R.run("law 0 30000 100 100; sold 0 1 0; later 364; claim = 1; asked = 1; later 1; claim = 1; asked = 2; "
                + "later 364; claim = 1; asked = 2; later 1; claim = 1; asked = 3");
        R.run("law 0 30000 100 50; sold 0 1 0; later 729; claim = 1; asked = 1; later 1; claim = 1; asked = 2");
        R.run("law 0 30000 100 7; sold 0 55 0; later 94; claim = 1; asked = 55; later 1; claim = 1; asked = 56; "
                + "later 94; claim = 1; asked = 56; later 1; claim = 1; asked = 57");
        R.run("law 0 30000 100 100; sold 0 1000000 0; later 30000; claim = 1; asked = 83191780");
        R.run("law 0 30000 100 0; sold 0 1000000 0; later 30000; claim = 1; asked = 1000000");
        R.run("law 0 30000 100 100; sold 0 1000000 0; claim = 1; asked = 1000000; later 1; claim = 1; asked = 1002739");
        R.run("law 0 30000 100 100; later 20000; sold 10000 1000000 0; claim = 1; asked = 28397260");
    }

    private static void claimRefused() {
        R.sentence(37, "A CLAIM: as told; what is paid back by asked(), if it is 1.");
        R.run("gaps 1500 1504; law 0 5 26 0; sold 0 7 0; claim = 1; asked = 7; gaps 1500 1504; later 6; claim = 2; "
                + "asked = 5; law 0 6 25 0; claim = 3; asked = 5");
        R.sentence(37, "BAD never; STATE: no CONTRACT, or no LAW in force; NOUGHT: no HAND can be (ahead of 2, too).");
        R.run("claim = STATE; law 0 0 100 0; claim = STATE; sold 0 7 0; claim = 1; finding = 0");
        R.run("sold 0 7 0; claim = STATE; law 1 0 100 0; claim = STATE; later 1; claim = STATE; sold 1 7 0; claim = 1");
        R.run(NO_HAND + "claim = STATE; sold 0 7 0; claim = STATE; law 1 0 100 0; claim = STATE; law 0 0 100 0; "
                + "claim = NOUGHT; later 1; claim = NOUGHT; hand 3 1; claim = 2; hand 3 0; claim = NOUGHT; asked = 0; "
                + "findings 4 = 3");
        R.run("law 0 0 0 0; sold 0 7 0; " + NO_HAND + "claim = NOUGHT; hand 0 1; claim = 3");
    }
}
