/** Promises 34, 35, 43 and 44: what is asked of the whole province. */
final class AskedTest {
    private AskedTest() {
    }

    static void run() {
        land();
        tell();
        digest();
        digestOfRest();
    }

    private static void land() {
        Publicanry p = Made.collected(Made.TENTH, 3);
        p.village(7, 0, 0, 1);
        p.edict(0, 1, 0);
        p.gift(0, 60);
        p.sue(0, 0);
        p.call();
        p.pass(2);
        p.cut(1);
        long[] want = {4, 1, 6, 2, 1, 1, 37, 60, -396 - 172 - (650 - 86 - 10 - 60) * 2 + 3, 1, 0, 0, 1, 17, 1, 1, 1};
        for (int what = 0; what < want.length; what++) {
            Check.is("land " + what, p.land(what), want[what]);
        }
        Check.isWrong("what -1", p, () -> p.land(-1));
        Check.isWrong("what 17", p, () -> p.land(17));
        Check.is("sound", p.isSound(), true);
    }

    private static void tell() {
        Publicanry p = new Publicanry();
        p.village(30, 0, 0, 1);
        p.village(31, 0, 0, 1);
        Check.isText("houses", p.tell(1), "1: 31 houses");
        p.war(2);
        Check.isText("burnt", p.tell(1), "1: 31 houses, burnt");
        p.pass(5);
        Check.isText("owes", p.tell(1), "1: 31 houses, owes 124");
        p.war(2);
        Check.isText("burnt, owes", p.tell(1), "1: 31 houses, burnt, owes 124");
        for (int k = 0; k < 7; k++) {
            p.quarter(1);
        }
        p.pass(1);
        Check.isText("all of it", p.tell(1), "1: 31 houses, revolt, burnt, owes 248");
        Publicanry q = new Publicanry();
        q.village(1, 600, 10, 9);
        q.company(100, 0);
        q.join(0, 9);
        Made.lease(q, 0, Made.PASTURE, 1, 1, 4);
        q.force(0, 2);
        q.pass(2);
        Check.isText("owes 1", q.tell(0), "0: 1 houses, owes 1");
        Check.noSuch("village 2", p, () -> p.tell(2));
        Check.noSuch("village -1", p, () -> p.tell(-1));
    }

    private static void digest() {
        Publicanry p = new Publicanry();
        Check.is("of a new one", p.digest(), byHand(p));
        Publicanry q = Made.rich();
        q.company(300, 2);
        q.join(1, 7);
        q.join(1, 4);
        q.shareOut(1, 9);
        q.village(20, 100, 30, 4);
        q.edict(1, 33, 2);
        Made.lease(q, 0, Made.TENTH, 3, 3, 130);
        Made.lease(q, 0, Made.HEARTH, 1, 2, 20);
        q.letOn(0, 1, 30);
        q.force(0, 2);
        q.clerks(1, true);
        for (int season = 0; season < 30; season++) {
            q.pass(1);
            Check.is("in season " + season, q.digest(), byHand(q));
        }
    }

    private static void digestOfRest() {
        Publicanry p = new Publicanry();
        Publicanry q = new Publicanry();
        Check.is("of two that are alike", p.digest(), q.digest());
        q.call();
        Check.is("of two that are not", p.digest() == q.digest(), false);
    }

    private static long d;

    private static void mix(long v) {
        d = d * 31 + v;
    }

    static long byHand(Publicanry p) {
        d = 58260;
        for (int what = 0; what <= 16; what++) {
            mix(p.land(what));
        }
        for (int duty = 0; duty < 3; duty++) {
            for (int what = 0; what <= 4; what++) {
                mix(p.law(duty, what));
            }
            mix(p.direct(duty));
        }
        for (int village = 0; village < p.land(3); village++) {
            mixVillage(p, village);
        }
        for (int company = 0; company < p.land(4); company++) {
            mixCompany(p, company);
        }
        for (int lot = 0; lot < p.land(5); lot++) {
            for (int what = 0; what <= 11; what++) {
                mix(p.ofLot(lot, what));
            }
            mix(p.wouldBring(lot, 1));
            mix(p.bestForce(lot));
        }
        mix(p.isSound() ? 1 : 0);
        return d;
    }

    private static void mixVillage(Publicanry p, int village) {
        for (int what = 0; what <= 13; what++) {
            mix(p.ofVillage(village, what));
        }
        for (int duty = 0; duty < 3; duty++) {
            mix(p.due(village, duty, false));
            mix(p.due(village, duty, true));
            for (int what = 0; what <= 5; what++) {
                mix(p.levy(village, duty, what));
            }
        }
    }

    private static void mixCompany(Publicanry p, int company) {
        for (int what = 0; what <= 12; what++) {
            mix(p.ofCompany(company, what));
        }
        mix((long) (64.0 * p.gain(company)));
        for (int k = 0; k < p.ofCompany(company, 6); k++) {
            mix(p.partner(company, k, false));
            mix(p.partner(company, k, true));
        }
    }
}
