/** Promises 24, 26 and 41: clerks and the guard. */
final class ClerksTest {
    private ClerksTest() {
    }

    static void run() {
        clerks();
        direct();
        tenthByClerks();
        hearthsByClerks();
        treasuryRunsOut();
        leftOut();
        lastAutumn();
        byLawNotStone();
        guard();
    }

    private static void clerks() {
        Publicanry p = new Publicanry();
        Check.is("at first", p.clerks(0, true), false);
        Check.is("then", p.clerks(0, true), true);
        Check.is("of another duty", p.clerks(2, false), false);
        Check.is("no more", p.clerks(0, false), true);
        Check.is("not", p.law(0, 3), 0);
        Check.noSuch("duty 3", p, () -> p.clerks(3, true));
        Check.noSuch("duty -1", p, () -> p.clerks(-1, false));
    }

    private static void direct() {
        Publicanry p = Made.rich();
        p.village(10, 600, 100, 9);
        Check.isText("in spring", Check.row(p.direct(0), p.direct(1), p.direct(2)), "-8 -8 -8");
        p.pass(1);
        Check.isText("in summer, whether clerks or not", Check.row(p.direct(0), p.direct(2)), Check.row(2 * (96 - 4), -8));
        p.pass(3);
        Check.isText("with coins", Check.row(p.direct(1), p.direct(2)), Check.row(2 * (9 - 4), 2 * (15 - 4)));
        Made.lease(p, 0, Made.HEARTH, 2, 1, 4);
        p.lot(1, 1, 1, 0);
        Check.isText("without those leased", Check.row(p.direct(1), p.direct(2)), "10 11");
        Check.noSuch("duty 3", p, () -> p.direct(3));
        Check.noSuch("duty -1", p, () -> p.direct(-1));
    }

    private static void tenthByClerks() {
        Publicanry p = Made.rich();
        Made.lease(p, 0, Made.HEARTH, 1, 1, 8);
        p.force(0, 1);
        p.clerks(0, true);
        p.pass(2);
        Check.isText("48 in grain, 4 are paid", Check.row(p.law(0, 4), p.land(6), p.ofVillage(0, 4)),
            Check.row(96, 8 - 4 + 96, 650 - 48));
        Check.isText("no unrest of it, no levy", Check.row(p.ofVillage(0, 7), p.levy(0, 0, 0)), "0 -1");
        Check.is("of the world", p.land(8), -396 + 4 - 96);
        p.pass(4);
        Check.is("ever", p.law(0, 4), 96 + 2 * 54);
    }

    private static void hearthsByClerks() {
        Publicanry p = Made.rich();
        Made.lease(p, 0, Made.TENTH, 1, 1, 8);
        p.clerks(2, true);
        p.pass(2);
        Check.isText("no borrowing", Check.row(p.law(2, 4), p.land(6), p.ofVillage(0, 6)), "0 4 0");
        p.pass(4);
        Check.isText("15 in coins", Check.row(p.law(2, 4), p.land(6), p.ofVillage(0, 5)), Check.row(15, 15, 1080 - 15));
    }

    private static void treasuryRunsOut() {
        Publicanry p = Made.rich();
        p.village(10, 600, 0, 9);
        Made.lease(p, 0, Made.PASTURE, 1, 1, 7);
        p.clerks(2, true);
        p.clerks(0, true);
        p.pass(2);
        Check.isText("the tenth first: 4 are there, then more", Check.row(p.law(0, 4), p.law(2, 4), p.land(6)),
            Check.row(192, 0, 7 - 8 + 192 - 8));
        Publicanry q = Made.rich();
        q.village(10, 600, 0, 9);
        Made.lease(q, 0, Made.PASTURE, 1, 1, 7);
        q.clerks(2, true);
        q.pass(2);
        Check.is("only the first is asked, and 3 are left", q.land(6), 3);
        Publicanry r = Made.rich();
        Made.lease(r, 0, Made.PASTURE, 1, 1, 3);
        r.clerks(0, true);
        r.pass(2);
        Check.isText("3 are too few", Check.row(r.law(0, 4), r.land(6), r.ofVillage(0, 4)), "0 3 650");
    }

    private static void leftOut() {
        Publicanry p = Made.rich();
        p.village(10, 600, 0, 9);
        p.village(10, 600, 0, 9);
        Made.lease(p, 0, Made.TENTH, 1, 2, 100);
        p.lot(0, 2, 1, 0);
        for (int k = 0; k < 7; k++) {
            p.quarter(2);
        }
        p.clerks(0, true);
        p.pass(2);
        Check.isText("one is leased, one in revolt, one is asked", Check.row(p.law(0, 4), p.land(6), p.direct(0)),
            Check.row(96, 50 + 92, 92));
    }

    private static void lastAutumn() {
        Publicanry p = Made.rich();
        Made.lease(p, 0, Made.TENTH, 1, 1, 40);
        p.clerks(0, true);
        p.pass(2);
        Check.isText("clerks ask already", Check.row(p.levy(0, 0, 2), p.law(0, 4)), "40 96");
    }

    private static void byLawNotStone() {
        Publicanry p = Made.rich();
        Made.lease(p, 0, Made.HEARTH, 1, 1, 40);
        p.edict(0, 200, 0);
        p.clerks(0, true);
        p.pass(4);
        long before = p.law(0, 4);
        p.pass(2);
        Check.is("144 due by the law, 36 hidden", p.law(0, 4) - before, 216);
    }

    private static void guard() {
        Publicanry p = new Publicanry();
        Check.is("refused", p.call(), 1);
        Check.is("refused again", p.call(), 2);
        Check.is("is told", p.land(16), 2);
    }
}
