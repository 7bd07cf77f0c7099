/** Promises 8 to 11, 15, 17, 31, 32 and 36: companies, partners, shares, rings, forces. */
final class CompanyTest {
    private CompanyTest() {
    }

    static void run() {
        company();
        join();
        shareOut();
        shareOutRests();
        shareOutWrong();
        ring();
        force();
        ofCompany();
        partner();
        gain();
    }

    private static void company() {
        Publicanry p = new Publicanry();
        Check.is("company 0", p.company(0, 0), 0);
        Check.is("company 1", p.company(2000, 3), 1);
        Check.isWrong("land -1", p, () -> p.company(-1, 0));
        Check.isWrong("land 2001", p, () -> p.company(2001, 0));
        Check.isWrong("ring -1", p, () -> p.company(1, -1));
        Check.isWrong("ring 4", p, () -> p.company(1, 4));
        Check.is("company 2", p.company(1, 1), 2);
        Check.is("company 3", p.company(1, 1), 3);
        Check.isRefused("a fifth company", p, () -> p.company(1, 1));
        Check.isWrong("a fifth company with wrong land", p, () -> p.company(-1, 1));
        Check.is("four companies", p.land(4), 4);
        long[] want = {2000, 0, 0, 3, 0, 0, 0, 0, 0, 0, 0, 0, 0};
        for (int what = 0; what < 13; what++) {
            Check.is("a company as it is founded: " + what, p.ofCompany(1, what), want[what]);
        }
    }

    private static void join() {
        Publicanry p = new Publicanry();
        p.company(0, 0);
        Check.is("partner 0", p.join(0, 1), 0);
        Check.is("partner 1", p.join(0, 99), 1);
        Check.isText("4 for each share", Check.row(p.ofCompany(0, 2), p.land(8)), "400 -400");
        Check.isText("partners and shares", Check.row(p.ofCompany(0, 6), p.ofCompany(0, 7)), "2 100");
        Check.isWrong("shares 0", p, () -> p.join(0, 0));
        Check.isWrong("shares 100", p, () -> p.join(0, 100));
        Check.noSuch("join company 1", p, () -> p.join(1, 0));
        Check.noSuch("join company -1", p, () -> p.join(-1, 1));
        p.join(0, 2);
        p.join(0, 2);
        Check.is("partner 4", p.join(0, 2), 4);
        Check.isRefused("a sixth partner", p, () -> p.join(0, 2));
        Check.isWrong("a sixth partner without shares", p, () -> p.join(0, 0));
    }

    private static String told(Publicanry p, int company) {
        StringBuilder told = new StringBuilder();
        for (int k = 0; k < p.ofCompany(company, 6); k++) {
            told.append(k == 0 ? "" : " ").append(p.partner(company, k, true));
        }
        return told.toString();
    }

    private static void shareOut() {
        Publicanry p = new Publicanry();
        p.company(0, 0);
        p.join(0, 50);
        p.join(0, 25);
        p.join(0, 24);
        Check.is("what is in its chest then", p.shareOut(0, 50), 346);
        Check.isText("25.25, 12.63, 12.12", told(p, 0), "25 13 12");
        Check.is("it goes to the world", p.land(8), -346);
        Check.is("again", p.shareOut(0, 1), 345);
        Check.isText("the greatest rest", told(p, 0), "26 13 12");
        Check.is("all of it", p.shareOut(0, 345), 0);
        Check.isText("174.24, 87.12, 83.63", told(p, 0), "200 100 96");
    }

    private static void shareOutRests() {
        Publicanry p = new Publicanry();
        p.company(0, 0);
        for (int k = 0; k < 5; k++) {
            p.join(0, 7);
        }
        p.shareOut(0, 3);
        Check.isText("of several the smallest numbers", told(p, 0), "1 1 1 0 0");
        p.shareOut(0, 6);
        Check.isText("1 more each", told(p, 0), "3 2 2 1 1");
        Publicanry r = new Publicanry();
        r.company(0, 0);
        r.join(0, 1);
        r.shareOut(0, 3);
        Check.isText("to one with a share of 1", told(r, 0), "3");
        Publicanry q = new Publicanry();
        q.company(0, 0);
        q.join(0, 1);
        q.join(0, 2);
        q.join(0, 2);
        q.shareOut(0, 4);
        Check.isText("0.8, 1.6, 1.6", told(q, 0), "1 2 1");
    }

    private static void shareOutWrong() {
        Publicanry p = new Publicanry();
        p.company(0, 0);
        p.company(0, 0);
        p.join(0, 2);
        Check.isRefused("more than there is", p, () -> p.shareOut(0, 9));
        Check.isRefused("far more than there is", p, () -> p.shareOut(0, Integer.MAX_VALUE));
        Check.isRefused("without a partner", p, () -> p.shareOut(1, 1));
        Check.isWrong("nothing", p, () -> p.shareOut(0, 0));
        Check.isWrong("less than nothing", p, () -> p.shareOut(1, -1));
        Check.noSuch("share out of company 2", p, () -> p.shareOut(2, 0));
        Check.noSuch("share out of company -1", p, () -> p.shareOut(-1, 1));
        Check.is("just what there is", p.shareOut(0, 8), 0);
    }

    private static void ring() {
        Publicanry p = new Publicanry();
        p.company(0, 2);
        Check.is("the ring before", p.ring(0, 3), 2);
        Check.is("and then", p.ring(0, 0), 3);
        Check.is("out of it", p.ofCompany(0, 3), 0);
        Check.isWrong("ring -1", p, () -> p.ring(0, -1));
        Check.isWrong("ring 4", p, () -> p.ring(0, 4));
        Check.noSuch("ring of company 1", p, () -> p.ring(1, 4));
        Check.noSuch("ring of company -1", p, () -> p.ring(-1, 1));
    }

    private static void force() {
        Publicanry p = new Publicanry();
        p.company(0, 2);
        Check.is("the force before", p.force(0, 3), 0);
        Check.is("and then", p.force(0, 1), 3);
        Check.is("is told", p.ofCompany(0, 4), 1);
        Check.isWrong("force -1", p, () -> p.force(0, -1));
        Check.isWrong("force 4", p, () -> p.force(0, 4));
        Check.noSuch("force of company 1", p, () -> p.force(1, 4));
        Check.noSuch("force of company -1", p, () -> p.force(-1, 1));
    }

    private static void ofCompany() {
        Publicanry p = Made.rich();
        p.ring(0, 2);
        p.force(0, 1);
        Made.lease(p, 0, Made.TENTH, 1, 2, 103);
        Made.lease(p, 0, Made.HEARTH, 1, 1, 7);
        p.gift(0, 5);
        p.deliver(0, 3);
        p.pass(2);
        long[] want = {2000, 25, 396 - 52 - 7 - 5 - 6 + 106, 2, 1, 0, 1, 99, 9, 5, 1, 106, 59};
        for (int what = 0; what < 13; what++) {
            Check.is("of a company, what " + what, p.ofCompany(0, what), want[what]);
        }
        Check.isWrong("what -1", p, () -> p.ofCompany(0, -1));
        Check.isWrong("what 13", p, () -> p.ofCompany(0, 13));
        Check.noSuch("company 1", p, () -> p.ofCompany(1, 13));
        Check.noSuch("company -1", p, () -> p.ofCompany(-1, 0));
    }

    private static void partner() {
        Publicanry p = new Publicanry();
        p.company(0, 0);
        p.company(0, 0);
        p.join(0, 5);
        p.join(1, 6);
        p.join(1, 7);
        p.shareOut(1, 13);
        Check.isText("shares", Check.row(p.partner(0, 0, false), p.partner(1, 0, false), p.partner(1, 1, false)), "5 6 7");
        Check.isText("told", Check.row(p.partner(0, 0, true), p.partner(1, 0, true), p.partner(1, 1, true)), "0 6 7");
        Check.noSuch("partner 1", p, () -> p.partner(0, 1, false));
        Check.noSuch("partner -1", p, () -> p.partner(0, -1, false));
        Check.noSuch("partner 0 of company 2", p, () -> p.partner(2, 0, false));
        Check.noSuch("partner 0 of company -1", p, () -> p.partner(-1, 0, true));
    }

    private static void gain() {
        Publicanry p = Made.collected(Made.TENTH, 0);
        Check.isReal("80 for 40", p.gain(0), 2.0);
        p.company(1, 0);
        Check.isReal("nothing for nothing", p.gain(1), 0.0);
        Publicanry q = Made.rich();
        Made.lease(q, 0, Made.TENTH, 1, 1, 300);
        q.pass(2);
        Check.isReal("80 for 300", q.gain(0), 80.0 / 300.0);
        Check.noSuch("gain of company 1", q, () -> q.gain(1));
        Check.noSuch("gain of company -1", q, () -> q.gain(-1));
    }
}
