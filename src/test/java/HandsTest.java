import java.math.BigInteger;

/** Promises 22 to 29: hands, tests, chances, and what a test can settle. */
public final class HandsTest {
    private static final int BAD = PictureCourt.BAD, FULL = PictureCourt.FULL;
    private static final int STATE = PictureCourt.STATE, NONE = PictureCourt.NONE;
    private static final int NOUGHT = 4;
    private static final Checks C = new Checks();

    public static void main(String[] args) {
        hands();
        tests();
        oftens();
        dones();
        chances();
        likely();
        gains();
        nexts();
        C.end();
    }

    private static PictureCourt weighing(int... weights) {
        PictureCourt x = new PictureCourt();
        for (int hand = 0; hand < 4; hand++) {
            x.hand(hand, weights[hand]);
        }
        return x;
    }

    private static void often(PictureCourt x, int test, int... oftens) {
        for (int hand = 0; hand < 4; hand++) {
            x.often(test, hand, oftens[hand]);
        }
    }

    private static void chanceDue(PictureCourt x, int hand, long upper, long lower) {
        C.due("chance(" + hand + ")", x.chance(hand), 1);
        fractionDue(x, upper, lower);
    }

    private static void gainDue(PictureCourt x, int test, long upper, long lower) {
        C.due("gain(" + test + ")", x.gain(test), 1);
        fractionDue(x, upper, lower);
    }

    private static void fractionDue(PictureCourt x, long upper, long lower) {
        C.due("upper()", x.upper(), upper);
        C.due("lower()", x.lower(), lower);
    }

    private static void hands() {
        C.promise(22, "hand");
        PictureCourt x = new PictureCourt();
        C.due("hand(0, 0)", x.hand(0, 0), 1);
        C.due("hand(0, 99)", x.hand(0, 99), 0);
        C.due("hand(3, 7)", x.hand(3, 7), 1);
        C.due("hand(3, 8)", x.hand(3, 8), 7);
        C.refused("hand(4, 1)", x, () -> x.hand(4, 1), BAD);
        C.refused("hand(-1, 1)", x, () -> x.hand(-1, 1), BAD);
        C.refused("hand(0, -1)", x, () -> x.hand(0, -1), BAD);
        C.refused("hand(0, 100)", x, () -> x.hand(0, 100), BAD);
        chanceDue(x, 0, 99, 109);
    }

    private static void tests() {
        C.promise(23, "test");
        PictureCourt x = new PictureCourt();
        C.due("test(1, 0, NONE)", x.test(1, 0, NONE), 0);
        C.due("test(1000, 9, 3)", x.test(1000, 9, 3), 1);
        C.due("test(1, 0, 0)", x.test(1, 0, 0), 2);
        C.refused("test(0, 0, 0)", x, () -> x.test(0, 0, 0), BAD);
        C.refused("test(1001, 0, 0)", x, () -> x.test(1001, 0, 0), BAD);
        C.refused("test(1, -1, 0)", x, () -> x.test(1, -1, 0), BAD);
        C.refused("test(1, 10, 0)", x, () -> x.test(1, 10, 0), BAD);
        C.refused("test(1, 0, 4)", x, () -> x.test(1, 0, 4), BAD);
        C.refused("test(1, 0, -1)", x, () -> x.test(1, 0, -1), BAD);
        for (int t = 3; t < 10; t++) {
            C.due("test " + t, x.test(1, 0, NONE), t);
        }
        C.refused("test when full", x, () -> x.test(1, 0, NONE), FULL);
        C.refused("bad test when full", x, () -> x.test(0, 0, NONE), BAD);
        for (int hand = 0; hand < 4; hand++) {
            C.due("often(9, " + hand + ", 8)", x.often(9, hand, 8), 8);
        }
    }

    private static void oftens() {
        C.promise(24, "often");
        PictureCourt x = new PictureCourt();
        x.test(1, 0, NONE);
        x.test(1, 0, NONE);
        C.due("often(1, 3, 16)", x.often(1, 3, 16), 8);
        C.due("often(1, 3, 0)", x.often(1, 3, 0), 16);
        C.due("often(1, 2, 5)", x.often(1, 2, 5), 8);
        C.due("often(1, 3, 1)", x.often(1, 3, 1), 0);
        C.due("often(0, 3, 1)", x.often(0, 3, 1), 8);
        C.refused("often(2, 0, 1)", x, () -> x.often(2, 0, 1), BAD);
        C.refused("often(-1, 0, 1)", x, () -> x.often(-1, 0, 1), BAD);
        C.refused("often(0, 4, 1)", x, () -> x.often(0, 4, 1), BAD);
        C.refused("often(0, -1, 1)", x, () -> x.often(0, -1, 1), BAD);
        C.refused("often(0, 0, -1)", x, () -> x.often(0, 0, -1), BAD);
        C.refused("often(0, 0, 17)", x, () -> x.often(0, 0, 17), BAD);
        x.done(0, false);
        C.refused("often(0, 0, 1), done", x, () -> x.often(0, 0, 1), STATE);
        C.refused("often(0, 0, 17), done", x, () -> x.often(0, 0, 17), BAD);
        C.due("often(1, 0, 1), not done", x.often(1, 0, 1), 8);
    }

    private static void dones() {
        C.promise(25, "done");
        PictureCourt x = new PictureCourt();
        x.test(1, 0, 2);
        x.test(1, 0, 2);
        x.test(1, 0, NONE);
        x.test(1, 0, NONE);
        x.test(1, 0, 3);
        C.due("done(1, false)", x.done(1, false), 1);
        C.due("done(0, true), not the first of its group", x.done(0, true), 0);
        C.due("done(2, true)", x.done(2, true), 1);
        C.due("done(3, true), no group", x.done(3, true), 1);
        C.due("count(4)", x.count(4), 4);
        C.refused("done(0, true)", x, () -> x.done(0, true), STATE);
        C.refused("done(2, false)", x, () -> x.done(2, false), STATE);
        C.refused("done(5, false)", x, () -> x.done(5, false), BAD);
        C.refused("done(-1, false)", x, () -> x.done(-1, false), BAD);
        C.due("done(4, false), another group", x.done(4, false), 1);
    }

    private static void chances() {
        C.promise(26, "chance");
        PictureCourt x = weighing(2, 4, 6, 0);
        chanceDue(x, 0, 1, 6);
        chanceDue(x, 1, 1, 3);
        chanceDue(x, 2, 1, 2);
        chanceDue(x, 3, 0, 1);
        x.test(1, 0, 1);
        x.test(1, 0, 1);
        x.test(1, 0, NONE);
        often(x, 0, 16, 4, 0, 0);
        often(x, 1, 1, 2, 3, 4);
        often(x, 2, 3, 16, 8, 8);
        chanceDue(x, 0, 1, 6);
        x.done(0, true);
        chanceDue(x, 0, 2, 3);
        x.done(1, true);
        chanceDue(x, 0, 2, 3);
        x.done(2, false);
        chanceDue(x, 0, 1, 1);
        chanceDue(x, 1, 0, 1);
        C.refused("chance(4)", x, () -> x.chance(4), BAD);
        C.refused("chance(-1)", x, () -> x.chance(-1), BAD);
        chanceDue(x, 0, 1, 1);
        x.hand(0, 0);
        C.finding("chance(1), no hand can be", x, () -> x.chance(1), NOUGHT);
        C.refused("chance(4), no hand can be", x, () -> x.chance(4), BAD);
        greatestScores();
    }

    /** Ten tests that all count make the greatest numbers that there can be. */
    private static void greatestScores() {
        PictureCourt x = weighing(99, 98, 99, 97);
        for (int t = 0; t < 10; t++) {
            x.test(1, 0, NONE);
            often(x, t, 16, 15, 16, 13);
        }
        for (int t = 0; t < 10; t++) {
            x.done(t, true);
        }
        long first = 99L << 40;
        long second = 98L * 225 * 225 * 225 * 225 * 225;
        long fourth = 97L * 169 * 169 * 169 * 169 * 169;
        long all = 2 * first + second + fourth;
        C.due("chance(1)", x.chance(1), 1);
        C.holds("the fraction is that of the scores",
                BigInteger.valueOf(x.upper()).multiply(BigInteger.valueOf(all))
                        .equals(BigInteger.valueOf(x.lower()).multiply(BigInteger.valueOf(second))));
        C.due("the common divisor", BigInteger.valueOf(x.upper())
                .gcd(BigInteger.valueOf(x.lower())).longValue(), 1);
        C.due("likely()", x.likely(), 0);
    }

    private static void likely() {
        C.promise(27, "likely");
        PictureCourt x = new PictureCourt();
        C.due("likely(), all alike", x.likely(), 0);
        x.hand(3, 2);
        C.due("likely()", x.likely(), 3);
        x.hand(1, 2);
        C.due("likely(), the least of alike ones", x.likely(), 1);
        x.test(1, 0, NONE);
        often(x, 0, 16, 0, 0, 0);
        x.done(0, false);
        x.hand(1, 0);
        C.due("likely()", x.likely(), 3);
        for (int hand = 1; hand < 4; hand++) {
            x.hand(hand, 0);
        }
        C.finding("likely(), no hand can be", x, x::likely, NOUGHT);
    }

    private static void gains() {
        C.promise(28, "gain");
        PictureCourt x = weighing(3, 1, 0, 0);
        x.test(1, 0, 0);
        x.test(1, 0, 0);
        x.test(1, 0, NONE);
        x.test(1, 0, NONE);
        gainDue(x, 0, 0, 1);
        often(x, 0, 16, 0, 8, 8);
        gainDue(x, 0, 1, 4);
        often(x, 2, 4, 16, 0, 0);
        gainDue(x, 2, 1, 16);
        often(x, 3, 10, 16, 0, 0);
        gainDue(x, 3, 0, 1);
        often(x, 3, 0, 0, 8, 8);
        gainDue(x, 3, 0, 1);
        often(x, 3, 16, 16, 8, 8);
        gainDue(x, 3, 0, 1);
        C.due("asked(), not told by gain", x.asked(), 0);
        C.refused("gain(4)", x, () -> x.gain(4), BAD);
        C.refused("gain(-1)", x, () -> x.gain(-1), BAD);
        x.done(0, true);
        C.refused("gain(0), done", x, () -> x.gain(0), STATE);
        C.refused("gain(1), one of its group was done", x, () -> x.gain(1), STATE);
        gainDue(x, 2, 0, 1);
        x.done(2, true);
        C.due("gain(3), no group", x.gain(3), 1);
        x.hand(0, 0);
        C.finding("gain(3), no hand can be", x, () -> x.gain(3), NOUGHT);
        C.refused("gain(1), STATE ahead", x, () -> x.gain(1), STATE);
    }

    private static void nextOfMany() {
        PictureCourt x = weighing(3, 1, 0, 0);
        for (int t = 0; t < 10; t++) {
            x.test(100 - t, 0, NONE);
        }
        C.due("next(100, 0), alike: the least cost, told last", x.next(100, 0), 9);
        often(x, 2, 16, 0, 0, 0);
        C.due("next(100, 0), a lesser gain behind it costs less", x.next(100, 0), 2);
        often(x, 4, 16, 0, 0, 0);
        C.due("next(100, 0), as great a gain behind it costs less", x.next(100, 0), 4);
    }

    private static void nexts() {
        C.promise(29, "next");
        PictureCourt x = weighing(3, 1, 0, 0);
        C.due("next(1000, 9), no test", x.next(1000, 9), NONE);
        x.test(10, 3, 0);
        x.test(20, 2, NONE);
        x.test(20, 2, NONE);
        x.test(30, 1, 0);
        C.due("next(30, 3), all gain nothing: the least cost", x.next(30, 3), 0);
        C.due("next(30, 2), the least test", x.next(30, 2), 1);
        C.due("next(30, 1)", x.next(30, 1), 3);
        C.due("next(29, 1)", x.next(29, 1), NONE);
        C.due("next(9, 9)", x.next(9, 9), NONE);
        C.due("next(0, 0)", x.next(0, 0), NONE);
        often(x, 3, 16, 0, 0, 0);
        C.due("next(max, max), the greatest gain", x.next(Integer.MAX_VALUE, Integer.MAX_VALUE), 3);
        C.due("next(29, 9)", x.next(29, 9), 0);
        often(x, 2, 4, 16, 0, 0);
        C.due("next(29, 9)", x.next(29, 9), 2);
        x.done(0, false);
        C.due("next(1000, 9), one of its group was done", x.next(1000, 9), 2);
        x.done(2, false);
        C.due("next(1000, 9)", x.next(1000, 9), 1);
        x.done(1, false);
        C.due("next(1000, 9), none left", x.next(1000, 9), NONE);
        nextOfMany();
        C.refused("next(-1, 0)", x, () -> x.next(-1, 0), BAD);
        C.refused("next(0, -1)", x, () -> x.next(0, -1), BAD);
        x.hand(0, 0);
        C.finding("next(0, 0), no hand can be", x, () -> x.next(0, 0), NOUGHT);
        C.refused("next(-1, 0), no hand can be", x, () -> x.next(-1, 0), BAD);
    }
}
