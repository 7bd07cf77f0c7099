/** Provinces that several tests begin with. */
final class Made {
    static final int TENTH = 0;
    static final int PASTURE = 1;
    static final int HEARTH = 2;

    private Made() {
    }

    /** A village that brings in 630 with a sky of 5, and a company with 396 coins and 2000 of land. */
    static Publicanry rich() {
        Publicanry p = new Publicanry();
        p.village(10, 600, 100, 9);
        p.company(2000, 0);
        p.join(0, 99);
        return p;
    }

    static int lease(Publicanry p, int company, int duty, int set, int term, int price) {
        int lot = p.lot(duty, set, term, 0);
        p.bid(company, lot, price);
        p.award(lot);
        return lot;
    }

    /** The rich province, its duty leased to company 0 for a year at 40, just behind the autumn. */
    static Publicanry collected(int duty, int force) {
        Publicanry p = rich();
        lease(p, 0, duty, 1, 1, 40);
        p.force(0, force);
        p.pass(2);
        return p;
    }

    /** Two of all: villages, companies with 396 coins, lots that are offered (tenth and hearths of both villages). */
    static Publicanry two() {
        Publicanry p = new Publicanry();
        for (int k = 0; k < 2; k++) {
            p.village(10, 500, 100, 9);
            p.company(2000, 0);
            p.join(k, 99);
        }
        p.lot(TENTH, 3, 2, 0);
        p.lot(HEARTH, 3, 2, 0);
        return p;
    }

    /** The same, both lots leased to company 0 at 20. */
    static Publicanry leased() {
        Publicanry p = two();
        for (int k = 0; k < 2; k++) {
            p.bid(0, k, 20);
            p.award(k);
        }
        return p;
    }

    /** Shares out so much of the chest of a company that just these coins are left. */
    static void leave(Publicanry p, int company, int coins) {
        int more = p.ofCompany(company, 2) - coins;
        if (more > 0) {
            p.shareOut(company, more);
        }
        Check.is("what is left", p.ofCompany(company, 2), coins);
    }

    /** A province whose treasury has just these coins. */
    static Publicanry withTreasury(int coins) {
        Publicanry p = rich();
        if (coins > 0) {
            lease(p, 0, PASTURE, 1, 1, coins);
        }
        Check.is("the treasury", p.land(6), coins);
        return p;
    }
}
