/** Promises 38 to 44: what is told of the calls before. */
public final class ToldTest {
    private static final int BAD = PictureCourt.BAD, NONE = PictureCourt.NONE;
    private static final Checks C = new Checks();

    public static void main(String[] args) {
        asked();
        fractions();
        counts();
        findings();
        digests();
        C.end();
    }

    private static void asked() {
        C.promise(38, "asked");
        PictureCourt x = new PictureCourt();
        C.due("asked(), before", x.asked(), 0);
        x.row(0, 1);
        x.row(1, 1);
        x.lay(1, 0, 7);
        x.match(0, 1);
        C.due("asked(), of match", x.asked(), 7);
        x.sure(0, 1);
        x.match(0, 2);
        C.due("asked(), of match", x.asked(), 7);
        x.proof(1500, 1600, 1);
        x.proof(1400, 1499, 2);
        x.quarrel(0);
        C.due("asked(), of quarrel", x.asked(), 1);
        x.gaps(1500, 1509);
        C.due("asked(), of gaps", x.asked(), 10);
        x.leftOut(0);
        C.due("asked(), of leftOut", x.asked(), 1);
        x.gaps(1500, 1509);
        x.strike(0);
        x.quarrel(0);
        x.spread();
        x.claim();
        x.chance(0);
        x.heldYear(0);
        x.span(0, true);
        C.due("asked(), of gaps still", x.asked(), 10);
        x.opinion(6, 0, 1, false);
        x.opinion(6, 0, 1, false);
        x.spread();
        C.due("asked(), of spread", x.asked(), 6);
        x.law(0, 0, 100, 0);
        x.sold(0, 77, 0);
        x.claim();
        C.due("asked(), of claim", x.asked(), 77);
        C.due("asked(), again", x.asked(), 77);
    }

    private static void fractions() {
        PictureCourt x = new PictureCourt();
        C.promise(39, "upper");
        C.due("upper(), before", x.upper(), 0);
        C.promise(40, "lower");
        C.due("lower(), before", x.lower(), 1);
        x.chance(9);
        x.next(9, 9);
        x.likely();
        C.promise(39, "upper");
        C.due("upper(), none told", x.upper(), 0);
        C.promise(40, "lower");
        C.due("lower(), none told", x.lower(), 1);
        x.hand(1, 3);
        x.chance(1);
        C.promise(39, "upper");
        C.due("upper(), of chance", x.upper(), 1);
        C.promise(40, "lower");
        C.due("lower(), of chance", x.lower(), 2);
        x.test(1, 1, NONE);
        x.often(0, 0, 16);
        x.often(0, 1, 0);
        x.gain(0);
        C.promise(39, "upper");
        C.due("upper(), of gain", x.upper(), 1);
        C.promise(40, "lower");
        C.due("lower(), of gain", x.lower(), 6);
        x.law(0, 0, 100, 0);
        x.sold(0, 77, 0);
        x.claim();
        x.next(5, 5);
        x.likely();
        x.gain(1);
        C.promise(39, "upper");
        C.due("upper(), of gain still", x.upper(), 1);
        C.promise(40, "lower");
        C.due("lower(), of gain still", x.lower(), 6);
        x.often(0, 1, 8);
        x.often(0, 0, 8);
        x.gain(0);
        C.promise(39, "upper");
        C.due("upper(), of no gain", x.upper(), 0);
        C.promise(40, "lower");
        C.due("lower(), of no gain", x.lower(), 1);
    }

    private static void counts() {
        C.promise(41, "count");
        PictureCourt x = new PictureCourt();
        x.later(9);
        for (int n = 0; n < 7; n++) {
            x.opinion(0, 0, 0, true);
        }
        for (int n = 0; n < 6; n++) {
            x.owner(1500, 1500);
        }
        for (int n = 0; n < 5; n++) {
            x.proof(1500, 1500, 1);
        }
        for (int n = 0; n < 4; n++) {
            x.test(1, 1, 0);
        }
        x.strike(0);
        x.strike(4);
        x.done(1, true);
        x.done(2, true);
        x.law(0, 0, 0, 0);
        int[] due = {9, 5, 3, 4, 2, 6, 7, 1};
        for (int what = 0; what < due.length; what++) {
            C.due("count(" + what + ")", x.count(what), due[what]);
        }
        C.refused("count(8)", x, () -> x.count(8), BAD);
        C.refused("count(-1)", x, () -> x.count(-1), BAD);
    }

    private static void findings() {
        PictureCourt x = new PictureCourt();
        C.promise(42, "finding");
        C.due("finding(), before", x.finding(), 0);
        C.promise(43, "findings");
        for (int f = 1; f <= 5; f++) {
            C.due("findings(" + f + "), before", x.findings(f), 0);
        }
        C.refused("findings(0)", x, () -> x.findings(0), BAD);
        C.refused("findings(6)", x, () -> x.findings(6), BAD);
        C.refused("findings(-1)", x, () -> x.findings(-1), BAD);
        x.row(0, 1);
        x.proof(1500, 1500, 1);
        for (int n = 0; n < 2; n++) {
            x.lay(0, 1, 1);
        }
        for (int n = 0; n < 3; n++) {
            x.mark(0, 1);
        }
        for (int n = 0; n < 4; n++) {
            x.mean(0, true);
        }
        for (int n = 0; n < 5; n++) {
            x.row(0, -1);
        }
        C.promise(42, "finding");
        C.due("finding()", x.finding(), 5);
        x.tear(1);
        C.due("finding()", x.finding(), 1);
        x.row(0, 1);
        x.row(0, 41);
        x.strike(9);
        x.claim();
        C.due("finding(), the latest still", x.finding(), 1);
        C.promise(43, "findings");
        for (int f = 1; f <= 5; f++) {
            C.due("findings(" + f + ")", x.findings(f), f);
        }
    }

    /** The numbers of which the digest is made, written out by hand. */
    private static long digestOf(long... numbers) {
        long h = 17;
        for (long v : numbers) {
            h = 31 * h + v;
        }
        return h;
    }

    private static void digests() {
        C.promise(44, "digest");
        PictureCourt x = new PictureCourt();
        C.due("digest(), new", x.digest(), digestOf(
                0, 0, 0, 0, 0, 0, 0, 0,
                1, 1, 1, 1,
                1000, 1000, 1000, 1000, 1000, 1000, 1000, 1000, 1000, 1000,
                -1, -1, -1, -1, -1, -1));
        x.later(3);
        x.proof(1500, 1600, 2);
        x.rings(1700, 9, 3);
        x.later(4);
        x.strike(0);
        x.hand(2, 50);
        x.test(100, 1, NONE);
        x.test(200, 2, 1);
        x.test(300, 3, 1);
        x.often(0, 0, 1);
        x.often(0, 3, 2);
        x.done(1, true);
        x.done(2, false);
        x.owner(1500, 1600);
        x.opinion(1, 1, 1, true);
        x.law(1, 2, 3, 4);
        x.sold(1, 2, 3);
        x.paint(9, 1704);
        x.paint(0, 1600);
        x.row(1, 2);
        x.lay(1, 0, 200);
        x.lay(1, 1, 5);
        x.row(4, 0);
        C.due("digest()", x.digest(), digestOf(
                7, 2, 1, 3, 2, 1, 1, 1,
                0, 2, 3, 7, 1500, 1600,
                2, 3, 3, -9, 1700, 1725,
                1, 1, 50, 1,
                100, 1, -9, 1, 8, 8, 2, -9,
                200, 2, 1, 8, 8, 8, 8, 1,
                300, 3, 1, 8, 8, 8, 8, 0,
                1600, 1000, 1000, 1000, 1000, 1000, 1000, 1000, 1000, 1704,
                -1, 2, -56, 5, -1, -1, 0, -1));
    }
}
