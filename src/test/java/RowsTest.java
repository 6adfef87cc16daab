/** Promises 1 to 8: a new object, the day, the rows and how they match. */
public final class RowsTest {
    private static final int BAD = PictureCourt.BAD;
    private static final int NOTHING = 1, BEYOND = 2, SIZE = 5;
    private static final Checks C = new Checks();

    public static void main(String[] args) {
        newObject();
        days();
        rows();
        lays();
        tears();
        copies();
        matches();
        sures();
        C.end();
    }

    private static PictureCourt withRow(int r, int... bytes) {
        PictureCourt x = new PictureCourt();
        fill(x, r, bytes);
        return x;
    }

    private static void fill(PictureCourt x, int r, int... bytes) {
        C.due("row(" + r + ", " + bytes.length + ")", x.row(r, bytes.length), bytes.length);
        for (int i = 0; i < bytes.length; i++) {
            x.lay(r, i, bytes[i]);
        }
    }

    /** Lays each byte anew, which tells what it was without changing it. */
    private static void bytesDue(PictureCourt x, int r, int... bytes) {
        for (int i = 0; i < bytes.length; i++) {
            C.due("byte " + i + " of row " + r, x.lay(r, i, bytes[i]), bytes[i] + 1000);
        }
        C.finding("lay behind the last byte", x, () -> x.lay(r, bytes.length, 1), BEYOND);
    }

    private static void newObject() {
        C.promise(1, "a new object");
        PictureCourt x = new PictureCourt();
        for (int what = 0; what <= 7; what++) {
            C.due("count(" + what + ")", x.count(what), 0);
        }
        C.refused("claim() without a contract", x, x::claim, PictureCourt.STATE);
        for (int r = 0; r <= 5; r++) {
            int row = r;
            C.finding("tear(" + r + ")", x, () -> x.tear(row), NOTHING);
        }
        C.due("told(0, 0)", x.told(0, 0), BAD);
        C.due("done(0, true)", x.done(0, true), BAD);
        for (int p = 0; p <= 9; p++) {
            C.due("paint(" + p + ", 1000)", x.paint(p, 1000), 1000);
        }
        for (int hand = 0; hand <= 3; hand++) {
            C.due("hand(" + hand + ", 1)", x.hand(hand, 1), 1);
        }
        C.due("rings(1500, 0, 1)", x.rings(1500, 0, 1), 0);
        C.due("from with SAP 8 at first", x.told(0, 4), 1508);
        C.due("to with SAP 24 and USE 10 at first", x.told(0, 5), 1534);
    }

    private static void days() {
        C.promise(2, "later");
        PictureCourt x = new PictureCourt();
        C.due("later(0)", x.later(0), 0);
        C.due("later(7)", x.later(7), 7);
        C.due("later(3)", x.later(3), 10);
        C.refused("later(-1)", x, () -> x.later(-1), BAD);
        C.refused("later(29991)", x, () -> x.later(29991), BAD);
        C.refused("later(max)", x, () -> x.later(Integer.MAX_VALUE), BAD);
        C.refused("later(min)", x, () -> x.later(Integer.MIN_VALUE), BAD);
        C.due("later(29990)", x.later(29990), 30000);
        C.due("later(0)", x.later(0), 30000);
        C.refused("later(1)", x, () -> x.later(1), BAD);
        C.due("count(0)", x.count(0), 30000);
    }

    private static void rows() {
        C.promise(3, "row");
        PictureCourt x = withRow(0, 1, 2, 3);
        C.due("row(0, 2)", x.row(0, 2), 2);
        bytesDue(x, 0, 0, 0);
        C.due("row(0, 3)", x.row(0, 3), 3);
        bytesDue(x, 0, 0, 0, 0);
        C.due("row(5, 40)", x.row(5, 40), 40);
        C.due("lay(5, 39, 1)", x.lay(5, 39, 1), 1000);
        C.due("row(5, 0)", x.row(5, 0), 0);
        bytesDue(x, 5);
        C.refused("row(1, 41)", x, () -> x.row(1, 41), BAD);
        C.refused("row(-1, 1)", x, () -> x.row(-1, 1), BAD);
        C.refused("row(6, 1)", x, () -> x.row(6, 1), BAD);
        C.refused("row(6, -1)", x, () -> x.row(6, -1), BAD);
        C.finding("row(0, -1)", x, () -> x.row(0, -1), SIZE);
        C.finding("row(1, min)", x, () -> x.row(1, Integer.MIN_VALUE), SIZE);
    }

    private static void lays() {
        C.promise(4, "lay");
        PictureCourt x = withRow(2, 0, 0);
        C.due("lay(2, 0, 127)", x.lay(2, 0, 127), 1000);
        C.due("lay(2, 0, 128)", x.lay(2, 0, 128), 1127);
        C.due("lay(2, 0, 255)", x.lay(2, 0, 255), 872);
        C.due("lay(2, 0, 256)", x.lay(2, 0, 256), 999);
        C.due("lay(2, 0, -129)", x.lay(2, 0, -129), 1000);
        C.due("lay(2, 0, max)", x.lay(2, 0, Integer.MAX_VALUE), 1127);
        C.due("lay(2, 0, 5)", x.lay(2, 0, 5), 999);
        bytesDue(x, 2, 5, 0);
        C.refused("lay(6, 0, 1)", x, () -> x.lay(6, 0, 1), BAD);
        C.refused("lay(-1, 0, 1)", x, () -> x.lay(-1, 0, 1), BAD);
        C.finding("lay(3, 9, 1)", x, () -> x.lay(3, 9, 1), NOTHING);
        C.finding("lay(2, -1, 1)", x, () -> x.lay(2, -1, 1), BEYOND);
        C.finding("lay(2, 2, 1)", x, () -> x.lay(2, 2, 1), BEYOND);
        C.finding("lay(2, max, 1)", x, () -> x.lay(2, Integer.MAX_VALUE, 1), BEYOND);
    }

    private static void tears() {
        C.promise(5, "tear");
        PictureCourt x = withRow(4, 1);
        C.due("tear(4)", x.tear(4), 1);
        C.finding("tear(4)", x, () -> x.tear(4), NOTHING);
        C.finding("lay(4, 0, 1)", x, () -> x.lay(4, 0, 1), NOTHING);
        C.refused("tear(6)", x, () -> x.tear(6), BAD);
        C.refused("tear(-1)", x, () -> x.tear(-1), BAD);
        C.due("row(4, 1)", x.row(4, 1), 1);
        bytesDue(x, 4, 0);
        C.due("row(3, 0)", x.row(3, 0), 0);
        C.due("tear(3), an empty row", x.tear(3), 1);
    }

    private static void copies() {
        C.promise(6, "copy");
        PictureCourt x = withRow(0, 1, 2, 3, 4, 5);
        C.due("copy(0, 0, 0, 1, 4)", x.copy(0, 0, 0, 1, 4), 1);
        bytesDue(x, 0, 1, 1, 2, 3, 4);
        C.due("copy(0, 2, 0, 0, 3)", x.copy(0, 2, 0, 0, 3), 1);
        bytesDue(x, 0, 2, 3, 4, 3, 4);
        fill(x, 5, 9, 9, 9);
        C.due("copy(0, 3, 5, 1, 2)", x.copy(0, 3, 5, 1, 2), 1);
        bytesDue(x, 5, 9, 3, 4);
        bytesDue(x, 0, 2, 3, 4, 3, 4);
        C.due("copy(0, 5, 5, 3, 0)", x.copy(0, 5, 5, 3, 0), 1);
        C.refused("copy(6, 0, 0, 0, 1)", x, () -> x.copy(6, 0, 0, 0, 1), BAD);
        C.refused("copy(0, 0, 6, 0, 1)", x, () -> x.copy(0, 0, 6, 0, 1), BAD);
        C.refused("copy(-1, 0, 0, 0, 1)", x, () -> x.copy(-1, 0, 0, 0, 1), BAD);
        C.refused("copy(1, 0, -1, 0, 1)", x, () -> x.copy(1, 0, -1, 0, 1), BAD);
        C.finding("copy(1, 0, 0, 0, -1)", x, () -> x.copy(1, 0, 0, 0, -1), NOTHING);
        C.finding("copy(0, 9, 1, 0, 1)", x, () -> x.copy(0, 9, 1, 0, 1), NOTHING);
        C.finding("copy(0, 0, 5, 0, -1)", x, () -> x.copy(0, 0, 5, 0, -1), BEYOND);
        C.finding("copy(0, -1, 5, 0, 1)", x, () -> x.copy(0, -1, 5, 0, 1), BEYOND);
        C.finding("copy(0, 0, 5, -1, 1)", x, () -> x.copy(0, 0, 5, -1, 1), BEYOND);
        C.finding("copy(0, 0, 5, 0, 4)", x, () -> x.copy(0, 0, 5, 0, 4), BEYOND);
        C.finding("copy(5, 0, 0, 0, 4)", x, () -> x.copy(5, 0, 0, 0, 4), BEYOND);
        C.finding("copy(0, 6, 5, 0, 0)", x, () -> x.copy(0, 6, 5, 0, 0), BEYOND);
        C.finding("copy(0, 0, 5, 4, 0)", x, () -> x.copy(0, 0, 5, 4, 0), BEYOND);
        C.finding("copy(0, 1, 5, 0, max)", x, () -> x.copy(0, 1, 5, 0, Integer.MAX_VALUE), BEYOND);
        C.finding("copy(0, max, 5, 0, 1)", x, () -> x.copy(0, Integer.MAX_VALUE, 5, 0, 1), BEYOND);
    }

    private static void matches() {
        C.promise(7, "match");
        PictureCourt x = withRow(0, 5, 7);
        fill(x, 1, 0, 5, 6, 0, 5, 8, 5, 7);
        C.due("match(0, 1)", x.match(0, 1), 6);
        C.due("asked()", x.asked(), 0);
        x.lay(1, 7, 8);
        C.due("match(0, 1), the least of alike places", x.match(0, 1), 1);
        C.due("asked()", x.asked(), 1);
        fill(x, 2, 100, -100);
        fill(x, 3, -100, 100);
        C.due("match(2, 3), bytes with signs", x.match(2, 3), 0);
        C.due("asked()", x.asked(), 400);
        fill(x, 4, 6, 6, 9, 9);
        fill(x, 5, 6, 6, 6);
        x.row(5, 2);
        C.due("match(5, 4), only the bytes that are there", x.match(5, 4), 0);
        C.due("asked()", x.asked(), 12);
        x.tear(4);
        C.refused("match(0, 0)", x, () -> x.match(0, 0), BAD);
        C.refused("match(0, 6)", x, () -> x.match(0, 6), BAD);
        C.refused("match(-1, 0)", x, () -> x.match(-1, 0), BAD);
        C.finding("match(4, 0)", x, () -> x.match(4, 0), NOTHING);
        C.finding("match(0, 4)", x, () -> x.match(0, 4), NOTHING);
        C.finding("match(1, 0)", x, () -> x.match(1, 0), SIZE);
        x.row(5, 0);
        C.finding("match(5, 0)", x, () -> x.match(5, 0), SIZE);
        C.finding("match(0, 5)", x, () -> x.match(0, 5), SIZE);
        C.finding("match(5, 4), the missing one ahead", x, () -> x.match(5, 4), NOTHING);
    }

    /** Each of the other four rows can make a match unsure. */
    private static void rivalDue(int rival) {
        int r = (rival + 2) % 6;
        int other = (rival + 4) % 6;
        PictureCourt x = withRow(r, 3, 4);
        fill(x, other, 3, 4);
        C.due("sure(), no rival", x.sure(r, other), 1);
        fill(x, rival, 9, 3, 4);
        C.due("sure(), rival " + rival, x.sure(r, other), 0);
    }

    private static void sures() {
        C.promise(8, "sure");
        PictureCourt x = withRow(0, 10, 20);
        fill(x, 1, 10, 21);
        C.due("sure(0, 1)", x.sure(0, 1), 1);
        fill(x, 2, 0, 12, 20);
        C.due("sure(0, 1), the other one worse", x.sure(0, 1), 1);
        C.due("sure(0, 2)", x.sure(0, 2), 0);
        x.lay(2, 1, 11);
        C.due("sure(0, 1), the other one alike", x.sure(0, 1), 0);
        C.due("sure(0, 2), alike too", x.sure(0, 2), 0);
        x.lay(2, 1, 10);
        C.due("sure(0, 2), better", x.sure(0, 2), 1);
        fill(x, 2, 10);
        C.due("sure(0, 1), the other one too short", x.sure(0, 1), 1);
        C.due("sure(0, 2), too short", x.sure(0, 2), 0);
        C.due("sure(0, 3), missing", x.sure(0, 3), 0);
        C.due("sure(3, 0), missing", x.sure(3, 0), 0);
        x.row(4, 0);
        C.due("sure(4, 0), empty", x.sure(4, 0), 0);
        C.due("sure(0, 4), empty", x.sure(0, 4), 0);
        C.due("sure(5, 4), neither", x.sure(5, 4), 0);
        for (int rival = 0; rival <= 5; rival++) {
            rivalDue(rival);
        }
        C.refused("sure(1, 1)", x, () -> x.sure(1, 1), BAD);
        C.refused("sure(6, 1)", x, () -> x.sure(6, 1), BAD);
        C.refused("sure(1, -1)", x, () -> x.sure(1, -1), BAD);
        C.due("finding()", x.finding(), 0);
    }
}
