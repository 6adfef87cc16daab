/** Promises 30 to 37: owners and gaps, opinions, the contract and its laws. */
public final class ContractTest {
    private static final int BAD = PictureCourt.BAD, FULL = PictureCourt.FULL;
    private static final int STATE = PictureCourt.STATE, NONE = PictureCourt.NONE;
    private static final int NOUGHT = 4;
    private static final Checks C = new Checks();

    public static void main(String[] args) {
        owners();
        gaps();
        opinions();
        means();
        spreads();
        solds();
        laws();
        claims();
        C.end();
    }

    private static void owners() {
        C.promise(30, "owner");
        PictureCourt x = new PictureCourt();
        C.due("owner(1000, 2100)", x.owner(1000, 2100), 1);
        C.due("owner(1500, 1500)", x.owner(1500, 1500), 2);
        C.refused("owner(1501, 1500)", x, () -> x.owner(1501, 1500), BAD);
        C.refused("owner(999, 1500)", x, () -> x.owner(999, 1500), BAD);
        C.refused("owner(1500, 2101)", x, () -> x.owner(1500, 2101), BAD);
        for (int n = 3; n <= 20; n++) {
            C.due("owner " + n, x.owner(1600, 1601), n);
        }
        C.refused("owner when full", x, () -> x.owner(1600, 1601), FULL);
        C.refused("bad owner when full", x, () -> x.owner(1602, 1601), BAD);
    }

    private static void gapsDue(PictureCourt x, int a, int b, int years, int longest) {
        C.due("gaps(" + a + ", " + b + ")", x.gaps(a, b), years);
        C.due("asked()", x.asked(), longest);
    }

    private static void gaps() {
        C.promise(31, "gaps");
        PictureCourt x = new PictureCourt();
        gapsDue(x, 1000, 2100, 1101, 1101);
        gapsDue(x, 1500, 1500, 1, 1);
        x.owner(1700, 1750);
        x.owner(1600, 1620);
        x.owner(1605, 1610);
        x.owner(1618, 1630);
        x.owner(1631, 1640);
        x.owner(1642, 1650);
        gapsDue(x, 1600, 1640, 0, 0);
        gapsDue(x, 1600, 1650, 1, 1);
        gapsDue(x, 1641, 1641, 1, 1);
        gapsDue(x, 1590, 1699, 60, 49);
        gapsDue(x, 1590, 1655, 16, 10);
        gapsDue(x, 1660, 1690, 31, 31);
        gapsDue(x, 1745, 1760, 10, 10);
        gapsDue(x, 1800, 2100, 301, 301);
        gapsDue(x, 1000, 1500, 501, 501);
        for (int n = 7; n <= 20; n++) {
            x.owner(1500 + n, 1500 + n);
        }
        gapsDue(x, 1500, 1599, 86, 79);
        C.refused("gaps(1501, 1500)", x, () -> x.gaps(1501, 1500), BAD);
        C.refused("gaps(999, 1500)", x, () -> x.gaps(999, 1500), BAD);
        C.refused("gaps(1500, 2101)", x, () -> x.gaps(1500, 2101), BAD);
    }

    private static void opinions() {
        C.promise(32, "opinion");
        PictureCourt x = new PictureCourt();
        C.due("opinion(0, 0, 0, true)", x.opinion(0, 0, 0, true), 1);
        C.due("opinion(9, 3, 100, false)", x.opinion(9, 3, 100, false), 2);
        C.refused("opinion(10, 0, 1, true)", x, () -> x.opinion(10, 0, 1, true), BAD);
        C.refused("opinion(-1, 0, 1, true)", x, () -> x.opinion(-1, 0, 1, true), BAD);
        C.refused("opinion(0, 4, 1, true)", x, () -> x.opinion(0, 4, 1, true), BAD);
        C.refused("opinion(0, -1, 1, true)", x, () -> x.opinion(0, -1, 1, true), BAD);
        C.refused("opinion(0, 0, -1, true)", x, () -> x.opinion(0, 0, -1, true), BAD);
        C.refused("opinion(0, 0, 101, true)", x, () -> x.opinion(0, 0, 101, true), BAD);
        for (int n = 3; n <= 30; n++) {
            C.due("opinion " + n, x.opinion(1, 1, 1, true), n);
        }
        C.due("mean(1, true), full", x.mean(1, true), 1);
        C.due("spread(), full", x.spread(), NONE);
        C.refused("opinion when full", x, () -> x.opinion(0, 0, 1, true), FULL);
        C.refused("bad opinion when full", x, () -> x.opinion(0, 0, 101, true), BAD);
    }

    private static void means() {
        C.promise(33, "mean");
        PictureCourt x = new PictureCourt();
        C.finding("mean(0, false), none", x, () -> x.mean(0, false), NOUGHT);
        x.opinion(1, 0, 50, false);
        x.opinion(2, 0, 51, false);
        x.opinion(1, 0, 90, true);
        x.opinion(1, 3, 0, false);
        C.due("mean(0, false), cut", x.mean(0, false), 50);
        C.due("mean(0, true)", x.mean(0, true), 90);
        C.due("mean(3, false)", x.mean(3, false), 0);
        C.finding("mean(3, true), none", x, () -> x.mean(3, true), NOUGHT);
        C.finding("mean(1, false), none", x, () -> x.mean(1, false), NOUGHT);
        C.refused("mean(4, true)", x, () -> x.mean(4, true), BAD);
        C.refused("mean(-1, true)", x, () -> x.mean(-1, true), BAD);
    }

    private static void spreadDue(PictureCourt x, int widest, int expert) {
        C.due("spread()", x.spread(), widest);
        C.due("asked()", x.asked(), expert);
    }

    private static void spreads() {
        C.promise(34, "spread");
        PictureCourt x = new PictureCourt();
        x.gaps(1000, 2100);
        C.due("spread(), none", x.spread(), NONE);
        x.opinion(5, 0, 10, false);
        x.opinion(4, 0, 90, false);
        x.opinion(5, 1, 90, false);
        x.opinion(5, 0, 90, true);
        C.due("spread(), no two alike", x.spread(), NONE);
        C.due("asked(), as before", x.asked(), 1101);
        x.opinion(5, 0, 10, false);
        spreadDue(x, 0, 5);
        x.opinion(4, 0, 90, false);
        spreadDue(x, 0, 4);
        x.opinion(5, 0, 13, false);
        spreadDue(x, 3, 5);
        x.opinion(6, 2, 8, false);
        x.opinion(6, 2, 5, false);
        spreadDue(x, 3, 5);
        x.opinion(0, 3, 100, false);
        x.opinion(0, 3, 98, false);
        x.opinion(0, 3, 97, false);
        spreadDue(x, 3, 0);
        x.opinion(9, 3, 0, false);
        x.opinion(9, 3, 100, false);
        spreadDue(x, 100, 9);
    }

    private static void solds() {
        C.promise(35, "sold");
        PictureCourt x = new PictureCourt();
        x.later(10);
        x.law(0, 100, 100, 0);
        C.refused("sold(11, 5, 0)", x, () -> x.sold(11, 5, 0), BAD);
        C.refused("sold(-1, 5, 0)", x, () -> x.sold(-1, 5, 0), BAD);
        C.refused("sold(NONE, 5, 0)", x, () -> x.sold(NONE, 5, 0), BAD);
        C.refused("sold(1, 0, 0)", x, () -> x.sold(1, 0, 0), BAD);
        C.refused("sold(1, 1000001, 0)", x, () -> x.sold(1, 1000001, 0), BAD);
        C.refused("sold(1, 5, 4)", x, () -> x.sold(1, 5, 4), BAD);
        C.refused("sold(1, 5, -1)", x, () -> x.sold(1, 5, -1), BAD);
        C.refused("claim(), no contract", x, x::claim, STATE);
        C.due("sold(10, 1000000, 3)", x.sold(10, 1000000, 3), 1);
        C.due("claim()", x.claim(), 1);
        C.due("asked()", x.asked(), 1000000);
        C.due("sold(0, 1, 0), in its place", x.sold(0, 1, 0), 1);
        C.due("claim()", x.claim(), 1);
        C.due("asked()", x.asked(), 1);
    }

    private static void laws() {
        C.promise(36, "law");
        PictureCourt x = new PictureCourt();
        C.due("law(0, 0, 0, 0)", x.law(0, 0, 0, 0), 0);
        C.due("law(30000, 30000, 100, 100)", x.law(30000, 30000, 100, 100), 1);
        C.refused("law(-1, 0, 0, 0)", x, () -> x.law(-1, 0, 0, 0), BAD);
        C.refused("law(30001, 0, 0, 0)", x, () -> x.law(30001, 0, 0, 0), BAD);
        C.refused("law(0, -1, 0, 0)", x, () -> x.law(0, -1, 0, 0), BAD);
        C.refused("law(0, 30001, 0, 0)", x, () -> x.law(0, 30001, 0, 0), BAD);
        C.refused("law(0, 0, -1, 0)", x, () -> x.law(0, 0, -1, 0), BAD);
        C.refused("law(0, 0, 101, 0)", x, () -> x.law(0, 0, 101, 0), BAD);
        C.refused("law(0, 0, 0, -1)", x, () -> x.law(0, 0, 0, -1), BAD);
        C.refused("law(0, 0, 0, 101)", x, () -> x.law(0, 0, 0, 101), BAD);
        for (int n = 2; n < 8; n++) {
            C.due("law " + n, x.law(5, 0, 0, 0), n);
        }
        C.refused("law when full", x, () -> x.law(0, 0, 0, 0), FULL);
        C.refused("bad law when full", x, () -> x.law(0, 0, 0, 101), BAD);
    }

    private static void claims() {
        C.promise(37, "claim");
        lawsInForce();
        orderOfAnswers();
        greatestPay();
    }

    private static void lawsInForce() {
        PictureCourt x = new PictureCourt();
        x.later(100);
        x.sold(50, 73000, 0);
        C.refused("claim(), no law", x, x::claim, STATE);
        x.law(51, 100, 100, 1);
        C.refused("claim(), no law in force", x, x::claim, STATE);
        x.law(50, 100, 100, 3);
        C.due("claim()", x.claim(), 1);
        C.due("asked(), the law of the day of the sale", x.asked(), 73000 + 300);
        x.law(49, 100, 100, 2);
        C.due("claim()", x.claim(), 1);
        C.due("asked(), the latest day", x.asked(), 73000 + 300);
        x.law(50, 100, 100, 4);
        C.due("claim()", x.claim(), 1);
        C.due("asked(), of alike ones the last told", x.asked(), 73000 + 400);
        x.sold(49, 73000, 0);
        C.due("claim()", x.claim(), 1);
        C.due("asked()", x.asked(), 73000 + 204);
        x.sold(48, 73000, 0);
        C.refused("claim(), none before", x, x::claim, STATE);
        x.sold(49, 36499, 0);
        C.due("claim()", x.claim(), 1);
        C.due("asked(), cut", x.asked(), 36499 + 101);
    }

    private static void orderOfAnswers() {
        PictureCourt x = new PictureCourt();
        x.gaps(1500, 1506);
        x.later(10);
        x.sold(4, 10, 2);
        x.law(0, 5, 25, 0);
        C.due("claim(), too late ahead of not shown", x.claim(), 2);
        x.law(0, 6, 25, 0);
        C.due("claim(), not shown", x.claim(), 3);
        C.due("asked(), as before", x.asked(), 7);
        x.hand(1, 2);
        C.due("claim(), below now", x.claim(), 1);
        C.due("asked()", x.asked(), 10);
        x.later(1);
        C.due("claim(), too late", x.claim(), 2);
        for (int hand = 0; hand < 4; hand++) {
            x.hand(hand, 0);
        }
        C.finding("claim(), NOUGHT ahead of too late", x, x::claim, NOUGHT);
        x.sold(4, 10, 2);
        x.hand(3, 1);
        x.law(1, 30000, 0, 0);
        C.due("claim(), nothing is below 0", x.claim(), 3);
        x.law(1, 30000, 1, 0);
        C.due("claim(), 0 is below 1 by 100", x.claim(), 1);
        x.sold(4, 10, 3);
        x.law(1, 30000, 100, 0);
        C.due("claim(), certain", x.claim(), 3);
        PictureCourt y = new PictureCourt();
        for (int hand = 0; hand < 4; hand++) {
            y.hand(hand, 0);
        }
        C.refused("claim(), STATE ahead of NOUGHT", y, y::claim, STATE);
    }

    private static void greatestPay() {
        PictureCourt x = new PictureCourt();
        x.law(0, 30000, 100, 100);
        x.later(30000);
        x.sold(0, 1000000, 0);
        C.due("claim()", x.claim(), 1);
        C.due("asked()", x.asked(), 83191780);
    }
}
