import java.util.LinkedHashMap;
import java.util.Map;

/**
 * What the other calls show of an object. It uses the object up: some things, as SAP or the LAWS, are
 * only seen by what new PROOFS and CONTRACTS make of them. Fewer than MOST_CALLS calls are made.
 */
final class Look {
    static final int MOST_CALLS = 250;
    private static final int NONE = PictureCourt.NONE;

    private final PictureCourt x;
    private final Map<String, Long> seen = new LinkedHashMap<>();

    private Look(PictureCourt x) {
        this.x = x;
    }

    /** What was told before is seen under the names asked(), upper(), lower(), finding(), findings(1) .. */
    static Map<String, Long> at(PictureCourt x) {
        Look look = new Look(x);
        look.told();
        look.counts();
        look.owners();
        look.contract();
        look.opinions();
        look.chances();
        look.tests();
        look.proofs();
        look.rows();
        look.sap();
        look.groups();
        look.laws();
        return look.seen;
    }

    private void see(String name, long answer) {
        if (seen.put(name, answer) != null) {
            throw new IllegalStateException(name + " is seen twice");
        }
    }

    /** What a call tells by asked() is seen only if it told something; what was told before told() has seen. */
    private void seeAsked(String name, long answer, boolean isTold) {
        see(name, answer);
        if (isTold) {
            see("asked() behind " + name, x.asked());
        }
    }

    private void seeAsked(String name, long answer) {
        seeAsked(name, answer, answer >= 0);
    }

    private void seeClaim(String name) {
        long answer = x.claim();
        seeAsked(name, answer, answer == 1);
    }

    private void seeFraction(String name, long answer) {
        see(name, answer);
        if (answer == 1) {
            see("upper() behind " + name, x.upper());
            see("lower() behind " + name, x.lower());
        }
    }

    private void told() {
        see("asked()", x.asked());
        see("upper()", x.upper());
        see("lower()", x.lower());
        see("finding()", x.finding());
        for (int f = 1; f <= 5; f++) {
            see("findings(" + f + ")", x.findings(f));
        }
    }

    private void counts() {
        for (int what = 0; what <= 7; what++) {
            see("count(" + what + ")", x.count(what));
        }
        see("digest()", x.digest());
    }

    private void contract() {
        seeClaim("claim()");
    }

    private void opinions() {
        seeAsked("spread()", x.spread());
        for (int hand = 0; hand <= 3; hand++) {
            see("mean(" + hand + ", false)", x.mean(hand, false));
            see("mean(" + hand + ", true)", x.mean(hand, true));
        }
    }

    private void owners() {
        seeAsked("gaps(1000, 2100)", x.gaps(1000, 2100));
        for (int a = 1000; a <= 2000; a += 100) {
            seeAsked("gaps(" + a + ", " + (a + 99) + ")", x.gaps(a, a + 99));
        }
    }

    private void chances() {
        for (int hand = 0; hand <= 3; hand++) {
            seeFraction("chance(" + hand + ")", x.chance(hand));
        }
        see("likely()", x.likely());
    }

    private void tests() {
        int tests = x.count(3);
        for (int t = 0; t < tests; t++) {
            seeFraction("gain(" + t + ")", x.gain(t));
        }
        see("next(1000, 9)", x.next(1000, 9));
        see("next(10, 9)", x.next(10, 9));
        see("next(1000, 1)", x.next(1000, 1));
    }

    private void proofs() {
        int today = x.count(0);
        for (int day : new int[] {0, Math.max(1, today - 1), Math.max(2, today), 30000}) {
            if (seen.containsKey("heldYear(" + day + ")")) {
                continue;
            }
            see("span(" + day + ", false)", x.span(day, false));
            see("span(" + day + ", true)", x.span(day, true));
            seeAsked("quarrel(" + day + ")", x.quarrel(day));
            seeAsked("leftOut(" + day + ")", x.leftOut(day));
            see("heldYear(" + day + ")", x.heldYear(day));
        }
        int proofs = x.count(1);
        for (int p = 0; p < proofs; p++) {
            see("mark(" + p + ", its KIND)", x.mark(p, x.told(p, 0)));
        }
    }

    private void rows() {
        for (int r = 0; r < 6; r++) {
            int other = (r + 1) % 6;
            seeAsked("match(" + r + ", " + other + ")", x.match(r, other));
        }
    }

    /** RINGS show SAP; in a full object those that are there have been seen by digest(). */
    private void sap() {
        int p = x.rings(1500, 0, 1);
        see("rings(1500, 0, 1)", p);
        see("its first YEAR", x.told(p, 4));
        see("its last YEAR", x.told(p, 5));
    }

    /** A new TEST shows whether one of its GROUP was DONE. */
    private void groups() {
        for (int group = 0; group <= 3 && x.count(3) < 10; group++) {
            see("gain of a new TEST of GROUP " + group, x.gain(x.test(1, 0, group)));
        }
    }

    /** A likely HAND and an unlikely one, sold on several days, show the LAWS. */
    private void laws() {
        for (int hand = 0; hand <= 3; hand++) {
            see("hand(" + hand + ", ..)", x.hand(hand, hand == 3 ? 97 : 1));
        }
        int today = x.count(0);
        for (int days = 0; days <= 2 && days <= today; days++) {
            for (int hand : new int[] {0, 3}) {
                int day = today * days / 2;
                see("sold(" + day + ", 36500, " + hand + "), " + days, x.sold(day, 36500, hand));
                seeClaim("then claim(), of HAND " + hand + ", " + days);
            }
        }
    }
}
