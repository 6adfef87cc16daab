/** Promises 9 to 21: paints, sap, the kinds of proofs, and what follows from them as of a day. */
public final class ProofsTest {
    private static final int BAD = PictureCourt.BAD, FULL = PictureCourt.FULL;
    private static final int STATE = PictureCourt.STATE, NONE = PictureCourt.NONE;
    private static final int UNLIKE = 3;
    private static final Checks C = new Checks();

    public static void main(String[] args) {
        paints();
        sap();
        proofs();
        founds();
        rings();
        threads();
        strikes();
        tolds();
        marks();
        spans();
        quarrels();
        leftOuts();
        heldYears();
        C.end();
    }

    private static void yearsDue(PictureCourt x, int proof, int from, int to) {
        C.due("told(" + proof + ", 4)", x.told(proof, 4), from);
        C.due("told(" + proof + ", 5)", x.told(proof, 5), to);
    }

    private static PictureCourt full() {
        PictureCourt x = new PictureCourt();
        for (int p = 0; p < 24; p++) {
            C.due("proof " + p, x.proof(1000, 2100, 1), p);
        }
        return x;
    }

    private static void paints() {
        C.promise(9, "paint");
        PictureCourt x = new PictureCourt();
        C.due("paint(0, 2100)", x.paint(0, 2100), 1000);
        C.due("paint(0, 1000)", x.paint(0, 1000), 2100);
        C.due("paint(9, 1500)", x.paint(9, 1500), 1000);
        C.due("paint(9, 1501)", x.paint(9, 1501), 1500);
        C.refused("paint(9, 999)", x, () -> x.paint(9, 999), BAD);
        C.refused("paint(9, 2101)", x, () -> x.paint(9, 2101), BAD);
        C.refused("paint(10, 1500)", x, () -> x.paint(10, 1500), BAD);
        C.refused("paint(-1, 1500)", x, () -> x.paint(-1, 1500), BAD);
        x.found(9, 1);
        x.later(5);
        x.paint(9, 1700);
        C.due("span(0, false), put right for all times", x.span(0, false), 1700);
    }

    private static void sap() {
        C.promise(10, "sap");
        PictureCourt x = new PictureCourt();
        x.rings(1500, 3, 1);
        C.due("sap(0, 60, 60)", x.sap(0, 60, 60), 1);
        yearsDue(x, 0, 1500, 1617);
        C.due("sap(60, 60, 0)", x.sap(60, 60, 0), 1);
        yearsDue(x, 0, 1557, 1557);
        C.refused("sap(5, 4, 1)", x, () -> x.sap(5, 4, 1), BAD);
        C.refused("sap(-1, 4, 1)", x, () -> x.sap(-1, 4, 1), BAD);
        C.refused("sap(0, 61, 1)", x, () -> x.sap(0, 61, 1), BAD);
        C.refused("sap(61, 61, 1)", x, () -> x.sap(61, 61, 1), BAD);
        C.refused("sap(0, 1, -1)", x, () -> x.sap(0, 1, -1), BAD);
        C.refused("sap(0, 1, 61)", x, () -> x.sap(0, 1, 61), BAD);
    }

    private static void proofs() {
        C.promise(11, "proof");
        PictureCourt x = new PictureCourt();
        C.due("proof(1000, 2100, 9)", x.proof(1000, 2100, 9), 0);
        C.due("proof(1500, 1500, 1)", x.proof(1500, 1500, 1), 1);
        C.due("told(0, 0)", x.told(0, 0), 0);
        yearsDue(x, 0, 1000, 2100);
        yearsDue(x, 1, 1500, 1500);
        C.refused("proof(1501, 1500, 1)", x, () -> x.proof(1501, 1500, 1), BAD);
        C.refused("proof(999, 1500, 1)", x, () -> x.proof(999, 1500, 1), BAD);
        C.refused("proof(1500, 2101, 1)", x, () -> x.proof(1500, 2101, 1), BAD);
        C.refused("proof(1500, 1501, 0)", x, () -> x.proof(1500, 1501, 0), BAD);
        C.refused("proof(1500, 1501, 10)", x, () -> x.proof(1500, 1501, 10), BAD);
        PictureCourt y = full();
        C.refused("proof when full", y, () -> y.proof(1500, 1501, 1), FULL);
        C.refused("bad proof when full", y, () -> y.proof(1500, 1501, 0), BAD);
    }

    private static void founds() {
        C.promise(12, "found");
        PictureCourt x = new PictureCourt();
        x.paint(9, 1704);
        C.due("found(9, 9)", x.found(9, 9), 0);
        C.due("found(0, 1)", x.found(0, 1), 1);
        C.due("told(0, 0)", x.told(0, 0), 1);
        yearsDue(x, 0, 1704, 2100);
        yearsDue(x, 1, 1000, 2100);
        C.refused("found(10, 1)", x, () -> x.found(10, 1), BAD);
        C.refused("found(-1, 1)", x, () -> x.found(-1, 1), BAD);
        C.refused("found(0, 0)", x, () -> x.found(0, 0), BAD);
        C.refused("found(0, 10)", x, () -> x.found(0, 10), BAD);
        PictureCourt y = full();
        C.refused("found when full", y, () -> y.found(0, 1), FULL);
        C.refused("bad found when full", y, () -> y.found(10, 1), BAD);
    }

    private static void rings() {
        C.promise(13, "rings");
        PictureCourt x = new PictureCourt();
        C.due("rings(1590, 8, 1)", x.rings(1590, 8, 1), 0);
        C.due("rings(1590, 9, 1)", x.rings(1590, 9, 1), 1);
        C.due("rings(1590, 30, 1)", x.rings(1590, 30, 1), 2);
        C.due("rings(2000, 0, 1)", x.rings(2000, 0, 1), 3);
        C.due("rings(1000, 0, 9)", x.rings(1000, 0, 9), 4);
        C.due("told(0, 0)", x.told(0, 0), 2);
        yearsDue(x, 0, 1590, 1616);
        yearsDue(x, 1, 1590, 1615);
        yearsDue(x, 2, 1590, 1600);
        yearsDue(x, 3, 2008, 2034);
        x.sap(60, 60, 41);
        yearsDue(x, 3, 2060, 2100);
        C.refused("rings(999, 0, 1)", x, () -> x.rings(999, 0, 1), BAD);
        C.refused("rings(2001, 0, 1)", x, () -> x.rings(2001, 0, 1), BAD);
        C.refused("rings(1500, -1, 1)", x, () -> x.rings(1500, -1, 1), BAD);
        C.refused("rings(1500, 31, 1)", x, () -> x.rings(1500, 31, 1), BAD);
        C.refused("rings(1500, 0, 0)", x, () -> x.rings(1500, 0, 0), BAD);
        C.refused("rings(1500, 0, 10)", x, () -> x.rings(1500, 0, 10), BAD);
        PictureCourt y = full();
        C.refused("rings when full", y, () -> y.rings(1500, 0, 1), FULL);
        C.refused("bad rings when full", y, () -> y.rings(1500, 31, 1), BAD);
    }

    private static void threads() {
        C.promise(14, "threads");
        PictureCourt x = new PictureCourt();
        C.due("threads of missing rows", x.threads(5, 0, 1610, 1620, 9), 0);
        C.due("told(0, 0)", x.told(0, 0), 3);
        yearsDue(x, 0, 1000, 2100);
        x.row(5, 2);
        x.row(0, 3);
        yearsDue(x, 0, 1610, 1620);
        x.row(1, 2);
        yearsDue(x, 0, 1000, 2100);
        x.lay(1, 0, 1);
        yearsDue(x, 0, 1610, 1620);
        C.refused("threads(1, 1, ..)", x, () -> x.threads(1, 1, 1610, 1620, 1), BAD);
        C.refused("threads(6, 1, ..)", x, () -> x.threads(6, 1, 1610, 1620, 1), BAD);
        C.refused("threads(1, -1, ..)", x, () -> x.threads(1, -1, 1610, 1620, 1), BAD);
        C.refused("threads with a above b", x, () -> x.threads(0, 1, 1621, 1620, 1), BAD);
        C.refused("threads from 999", x, () -> x.threads(0, 1, 999, 1620, 1), BAD);
        C.refused("threads to 2101", x, () -> x.threads(0, 1, 1000, 2101, 1), BAD);
        C.refused("threads of weight 0", x, () -> x.threads(0, 1, 1000, 2100, 0), BAD);
        C.refused("threads of weight 10", x, () -> x.threads(0, 1, 1000, 2100, 10), BAD);
        PictureCourt y = full();
        C.refused("threads when full", y, () -> y.threads(0, 1, 1000, 2100, 1), FULL);
        C.refused("bad threads when full", y, () -> y.threads(0, 0, 1000, 2100, 1), BAD);
    }

    private static void strikes() {
        C.promise(15, "strike");
        PictureCourt x = new PictureCourt();
        x.proof(1500, 1600, 1);
        x.later(4);
        C.due("strike(0)", x.strike(0), 1);
        C.due("told(0, 3)", x.told(0, 3), 4);
        x.later(4);
        C.refused("strike(0) again", x, () -> x.strike(0), STATE);
        C.refused("strike(1)", x, () -> x.strike(1), BAD);
        C.refused("strike(-1)", x, () -> x.strike(-1), BAD);
        C.due("span(3, false), known till then", x.span(3, false), 1500);
        C.due("span(4, false), not any more", x.span(4, false), 1000);
        x.proof(1700, 1800, 1);
        x.strike(1);
        C.due("span(8, false), struck on the day on which it was told", x.span(8, false), 1000);
        PictureCourt y = full();
        y.strike(3);
        C.refused("proof when full, one struck", y, () -> y.proof(1500, 1501, 1), FULL);
    }

    private static void tolds() {
        C.promise(16, "told");
        PictureCourt x = new PictureCourt();
        x.later(6);
        x.rings(1500, 10, 7);
        C.due("told(0, 0)", x.told(0, 0), 2);
        C.due("told(0, 1)", x.told(0, 1), 7);
        C.due("told(0, 2)", x.told(0, 2), 6);
        C.due("told(0, 3)", x.told(0, 3), NONE);
        yearsDue(x, 0, 1500, 1524);
        x.later(1);
        x.strike(0);
        C.due("told(0, 2)", x.told(0, 2), 6);
        C.due("told(0, 3)", x.told(0, 3), 7);
        yearsDue(x, 0, 1500, 1524);
        C.refused("told(0, 6)", x, () -> x.told(0, 6), BAD);
        C.refused("told(0, -1)", x, () -> x.told(0, -1), BAD);
        C.refused("told(1, 0)", x, () -> x.told(1, 0), BAD);
        C.refused("told(-1, 0)", x, () -> x.told(-1, 0), BAD);
    }

    private static void marks() {
        C.promise(17, "mark");
        PictureCourt x = new PictureCourt();
        x.proof(1500, 1500, 1);
        x.found(7, 1);
        x.rings(1500, 11, 1);
        x.threads(0, 1, 1600, 1609, 1);
        C.due("mark(0, 0)", x.mark(0, 0), 1);
        C.due("mark(1, 0)", x.mark(1, 0), 1101);
        C.due("mark(2, 0)", x.mark(2, 0), 24);
        C.due("mark(3, 0)", x.mark(3, 0), 1101);
        C.due("mark(1, 1)", x.mark(1, 1), 7);
        C.due("mark(2, 2)", x.mark(2, 2), 11);
        C.due("mark(3, 3)", x.mark(3, 3), 0);
        x.row(0, 1);
        x.row(1, 1);
        C.due("mark(3, 3)", x.mark(3, 3), 1);
        C.due("mark(3, 0)", x.mark(3, 0), 10);
        for (int proof = 0; proof <= 3; proof++) {
            for (int kind = 1; kind <= 3; kind++) {
                int p = proof;
                int k = kind;
                if (p != k) {
                    C.finding("mark(" + p + ", " + k + ")", x, () -> x.mark(p, k), UNLIKE);
                }
            }
        }
        C.refused("mark(0, 4)", x, () -> x.mark(0, 4), BAD);
        C.refused("mark(0, -1)", x, () -> x.mark(0, -1), BAD);
        C.refused("mark(4, 0)", x, () -> x.mark(4, 0), BAD);
        C.refused("mark(-1, 1)", x, () -> x.mark(-1, 1), BAD);
        x.strike(1);
        C.due("mark(1, 1), struck", x.mark(1, 1), 7);
    }

    private static void spans() {
        C.promise(18, "span");
        PictureCourt x = new PictureCourt();
        C.due("span(0, false), no proof", x.span(0, false), 1000);
        C.due("span(30000, true), no proof", x.span(30000, true), 2100);
        x.later(10);
        x.proof(1500, 1600, 1);
        x.later(10);
        x.proof(1590, 1700, 1);
        C.due("span(9, true)", x.span(9, true), 2100);
        C.due("span(10, true)", x.span(10, true), 1600);
        C.due("span(19, false)", x.span(19, false), 1500);
        C.due("span(20, false)", x.span(20, false), 1590);
        C.due("span(20, true)", x.span(20, true), 1600);
        C.due("span(30000, false), a day to come", x.span(30000, false), 1590);
        x.proof(1600, 1600, 1);
        C.due("span(20, false), one year", x.span(20, false), 1600);
        C.due("span(20, true), one year", x.span(20, true), 1600);
        x.proof(1601, 1700, 1);
        C.due("span(20, false), none", x.span(20, false), NONE);
        C.due("span(20, true), none", x.span(20, true), NONE);
        C.refused("span(-1, true)", x, () -> x.span(-1, true), BAD);
        C.refused("span(30001, true)", x, () -> x.span(30001, true), BAD);
        C.due("finding()", x.finding(), 0);
    }

    private static void quarrels() {
        C.promise(19, "quarrel");
        PictureCourt x = new PictureCourt();
        C.due("quarrel(0), no proof", x.quarrel(0), NONE);
        x.proof(1000, 2100, 1);
        x.proof(1500, 1600, 1);
        x.proof(1600, 1700, 1);
        C.due("quarrel(0), one year in both", x.quarrel(0), NONE);
        C.due("asked(), none told", x.asked(), 0);
        PictureCourt z = new PictureCourt();
        z.proof(1600, 1700, 1);
        z.proof(1500, 1600, 1);
        C.due("quarrel(0), the other way round", z.quarrel(0), NONE);
        C.due("quarrel(0), full", full().quarrel(0), NONE);
        x.proof(1400, 1499, 1);
        C.due("quarrel(0)", x.quarrel(0), 1);
        C.due("asked()", x.asked(), 3);
        x.later(1);
        x.proof(1300, 1310, 1);
        x.proof(1601, 1650, 1);
        C.due("quarrel(1), the least other one", x.quarrel(1), 1);
        C.due("asked()", x.asked(), 3);
        x.later(1);
        x.strike(3);
        C.due("quarrel(2)", x.quarrel(2), 1);
        C.due("asked()", x.asked(), 4);
        x.strike(1);
        C.due("quarrel(2)", x.quarrel(2), 2);
        C.due("asked()", x.asked(), 4);
        C.due("quarrel(0), as it was known", x.quarrel(0), 1);
        C.due("asked()", x.asked(), 3);
        C.refused("quarrel(-1)", x, () -> x.quarrel(-1), BAD);
        C.refused("quarrel(30001)", x, () -> x.quarrel(30001), BAD);
        x.strike(4);
        C.due("quarrel(30000)", x.quarrel(30000), NONE);
        C.due("asked(), as before", x.asked(), 3);
    }

    private static void leftOuts() {
        C.promise(20, "leftOut");
        PictureCourt x = new PictureCourt();
        C.due("leftOut(0), no proof", x.leftOut(0), 0);
        C.due("asked()", x.asked(), 0);
        x.later(1);
        x.proof(1500, 1600, 3);
        x.proof(1550, 1560, 2);
        x.proof(1700, 1800, 5);
        C.due("leftOut(1), of alike ones the earliest", x.leftOut(1), 5);
        C.due("asked()", x.asked(), 4);
        C.due("leftOut(0), none known", x.leftOut(0), 0);
        C.due("asked()", x.asked(), 0);
        x.proof(1800, 1900, 1);
        C.due("leftOut(1)", x.leftOut(1), 5);
        C.due("asked()", x.asked(), 3);
        x.later(1);
        x.strike(2);
        C.due("leftOut(2), the struck one is not left out", x.leftOut(2), 1);
        C.due("asked()", x.asked(), 8);
        C.refused("leftOut(-1)", x, () -> x.leftOut(-1), BAD);
        C.refused("leftOut(30001)", x, () -> x.leftOut(30001), BAD);
        PictureCourt y = new PictureCourt();
        y.proof(1000, 1000, 1);
        for (int p = 1; p < 24; p++) {
            y.proof(1500, 1600, 9);
        }
        C.due("leftOut(0)", y.leftOut(0), 1);
        C.due("asked()", y.asked(), 1);
        y.leftOut(0);
        PictureCourt z = new PictureCourt();
        for (int p = 0; p < 23; p++) {
            z.proof(1500, 1600, 1);
        }
        z.proof(1000, 1499, 9);
        C.due("leftOut(0)", z.leftOut(0), 9);
        C.due("asked(), the last proof alone", z.asked(), 1 << 23);
    }

    private static void heldYears() {
        C.promise(21, "heldYear");
        PictureCourt x = new PictureCourt();
        C.due("heldYear(0), no proof", x.heldYear(0), 1000);
        x.later(1);
        x.proof(1700, 1800, 5);
        x.proof(1500, 1600, 5);
        C.due("heldYear(0)", x.heldYear(0), 1000);
        C.due("heldYear(1), of alike ones the earliest", x.heldYear(1), 1500);
        x.proof(1780, 2000, 1);
        C.due("heldYear(1)", x.heldYear(1), 1780);
        x.proof(1000, 1600, 1);
        C.due("heldYear(1)", x.heldYear(1), 1500);
        x.leftOut(1);
        int before = x.asked();
        x.heldYear(0);
        C.due("asked(), not told by heldYear", x.asked(), before);
        C.refused("heldYear(-1)", x, () -> x.heldYear(-1), BAD);
        C.refused("heldYear(30001)", x, () -> x.heldYear(30001), BAD);
        PictureCourt y = new PictureCourt();
        y.proof(2100, 2100, 1);
        C.due("heldYear(0), the last year", y.heldYear(0), 2100);
        y.found(0, 9);
        C.due("heldYear(0)", y.heldYear(0), 2100);
    }
}
