/** Provinces that several tests begin with. */
final class Made {
    static final int TENTH = 0;
    static final int PASTURE = 1;
    static final int HEARTH = 2;

    private Made() {
    }

    /** A village that brings in 630 with a sky of 5, and a company with 396 coins and 2000 of land. */
    static Publicanry rich() {
        Publicanry p = new Publicanry();
        p.village(10, 600, 100, 9);
        p.company(2000, 0);
        p.join(0, 99);
        return p;
    }

    static int lease(Publicanry p, int company, int duty, int set, int term, int price) {
        int lot = p.lot(duty, set, term, 0);
        p.bid(company, lot, price);
        p.award(lot);
        return lot;
    }

    /** The rich province, its duty leased to company 0 for a year at 40, just behind the autumn. */
    static Publicanry collected(int duty, int force) {
        Publicanry p = rich();
        lease(p, 0, duty, 1, 1, 40);
        p.force(0, force);
        p.pass(2);
        return p;
    }
}
