/** Promises 16, 29, 37 and 38, and section 5: collecting, agents, levies. */
final class CollectTest {
    private CollectTest() {
    }

    static void run() {
        tenth();
        tenthWithoutGrain();
        hearth();
        hearthWithCoins();
        pasture();
        unrestHides();
        unrestByFours();
        order();
        term();
        letOn();
        letOnWrong();
        letOnInRevolt();
        levy();
        wouldBring();
        bestForceOfLittleGrain();
    }

    private static String levy(Publicanry p, int village, int duty) {
        return Check.row(p.levy(village, duty, 0), p.levy(village, duty, 1), p.levy(village, duty, 2),
            p.levy(village, duty, 3), p.levy(village, duty, 4), p.levy(village, duty, 5));
    }

    private static void tenth() {
        int[] asked = {63, 70, 78, 86};
        int[] got = {40, 53, 69, 86};
        int[] unrest = {0, 0, 1, 2};
        for (int force = 0; force < 4; force++) {
            Publicanry p = Made.collected(Made.TENTH, force);
            Check.isText("the levy with a force of " + force, levy(p, 0, 0), Check.row(0, asked[force], got[force], 63, 0, 0));
            Check.isText("coins, grain, unrest", Check.row(p.ofCompany(0, 2), p.ofVillage(0, 4), p.ofVillage(0, 7)),
                Check.row(356 + 2 * got[force], 650 - got[force], unrest[force]));
            Check.isText("brought, and by the world", Check.row(p.ofCompany(0, 11), p.land(8)),
                Check.row(2 * got[force], -396 - 2 * got[force]));
        }
    }

    private static void tenthWithoutGrain() {
        Publicanry p = new Publicanry();
        p.village(90, 100, 0, 9);
        p.company(2000, 0);
        p.join(0, 99);
        p.pass(4);
        p.force(0, 3);
        Made.lease(p, 0, Made.TENTH, 1, 1, 4);
        p.pass(1);
        Check.isText("grain in summer", Check.row(p.ofVillage(0, 9), p.ofVillage(0, 4)), "120 135");
        p.pass(1);
        Check.isText("with grain", levy(p, 0, 0), "1 16 16 12 0 0");
        p.pass(3);
        Made.lease(p, 0, Made.TENTH, 1, 1, 4);
        long debt = p.ofVillage(0, 6);
        Check.is("no grain", p.ofVillage(0, 4), 0);
        Check.is("best of four that bring nothing", p.bestForce(1), 0);
        p.pass(1);
        Check.isText("nothing is got", levy(p, 0, 0), "2 8 0 6 1 0");
        Check.is("nothing is borrowed but for eating", p.ofVillage(0, 6) <= debt + 4 * p.ofVillage(0, 0), true);
    }

    private static void hearth() {
        int[] asked = {20, 22, 25, 27};
        int[] got = {0, 0, 22, 27};
        for (int force = 0; force < 4; force++) {
            Publicanry p = Made.collected(Made.HEARTH, force);
            Check.isText("hearths with a force of " + force, levy(p, 0, 2), Check.row(0, asked[force], got[force], 20, 0, 0));
            Check.isText("debt, coins, brought", Check.row(p.ofVillage(0, 6), p.ofCompany(0, 2), p.ofCompany(0, 11), p.land(8)),
                Check.row(got[force], 356 + got[force], got[force], -396 - got[force]));
        }
    }

    private static void hearthWithCoins() {
        for (int force = 0; force < 4; force++) {
            int[] got = {13, 17, 22, 27};
            Publicanry p = Made.rich();
            p.pass(4);
            Made.lease(p, 0, Made.HEARTH, 1, 1, 40);
            p.force(0, force);
            p.pass(2);
            Check.isText("out of its chest", Check.row(p.ofVillage(0, 5), p.ofVillage(0, 6), p.ofCompany(0, 2)),
                Check.row(1160 - got[force], 0, 356 + got[force]));
        }
    }

    private static void pasture() {
        Publicanry p = Made.collected(Made.PASTURE, 2);
        Check.isText("of a herd of 110", levy(p, 0, 1), "0 13 12 11 0 0");
        Check.is("borrowed", p.ofVillage(0, 6), 12);
    }

    private static void unrestHides() {
        Publicanry p = Made.rich();
        Made.lease(p, 0, Made.TENTH, 1, 1, 40);
        p.quarter(0);
        p.pass(1);
        p.quarter(0);
        Check.is("unrest", p.ofVillage(0, 7), 5);
        Check.is("63 * 7 / 16 are hidden", p.wouldBring(0, 0), 2 * (63 - 27));
        Check.is("86 * 1 / 16 are hidden", p.wouldBring(0, 3), 2 * (86 - 5));
        p.pass(1);
        Check.isText("hidden", levy(p, 0, 0), "0 63 36 63 0 0");
    }

    private static void unrestByFours() {
        Publicanry p = Made.rich();
        p.lot(0, 1, 1, 0);
        for (int k = 0; k < 3; k++) {
            p.quarter(0);
        }
        p.pass(1);
        for (int k = 0; k < 4; k++) {
            p.quarter(0);
        }
        Check.isText("with unrest 20", Check.row(p.ofVillage(0, 7), p.wouldBring(0, 0), p.wouldBring(0, 3)),
            Check.row(20, 2 * (63 - 43), 2 * (86 - 26)));
        Publicanry q = Made.rich();
        q.lot(0, 1, 1, 0);
        q.quarter(0);
        q.quarter(0);
        q.pass(2);
        Check.isText("with unrest 4", Check.row(q.ofVillage(0, 7), q.wouldBring(0, 0)), Check.row(4, 2 * (63 - 27)));
        q.pass(1);
        Check.isText("with unrest 3", Check.row(q.ofVillage(0, 7), q.wouldBring(0, 0)), Check.row(3, 2 * (63 - 23)));
    }

    /** What one levy takes, the next one finds no more; unrest of the first hides from the second. */
    private static void order() {
        Publicanry p = Made.rich();
        Made.lease(p, 0, Made.PASTURE, 1, 1, 4);
        Made.lease(p, 0, Made.TENTH, 1, 1, 4);
        p.force(0, 3);
        p.quarter(0);
        p.pass(2);
        Check.isText("with unrest 2", levy(p, 0, 1), "0 15 15 11 0 0");
        Check.isText("with unrest 5", levy(p, 0, 0), "0 86 81 63 1 0");
        Check.is("unrest then", p.ofVillage(0, 7), 7);
    }

    private static void term() {
        Publicanry p = Made.rich();
        Made.lease(p, 0, Made.TENTH, 1, 2, 41);
        Check.is("two autumns are left", p.ofLot(0, 8), 2);
        p.pass(2);
        Check.isText("one is left", Check.row(p.ofLot(0, 8), p.ofLot(0, 4), p.ofCompany(0, 1)), "1 1 10");
        p.pass(3);
        Check.isText("in the second summer", Check.row(p.ofLot(0, 4), p.ofLot(0, 11)), "1 2");
        p.pass(1);
        Check.isText("over", Check.row(p.ofLot(0, 8), p.ofLot(0, 4), p.ofCompany(0, 1), p.ofCompany(0, 10)), "0 2 0 0");
        Check.is("the levy of the second year", p.levy(0, 0, 0), 1);
        p.pass(4);
        Check.is("no third levy", p.levy(0, 0, 0), 1);
        Check.is("no third instalment", p.ofCompany(0, 12), 41);
        Publicanry q = Made.rich();
        q.pass(2);
        Made.lease(q, 0, Made.TENTH, 1, 1, 40);
        Check.is("an autumn that has begun is none of them", q.levy(0, 0, 0), -1);
        q.pass(3);
        Check.is("leased till the next autumn", q.ofLot(0, 4), 1);
        q.pass(1);
        Check.isText("over", Check.row(q.ofLot(0, 4), q.levy(0, 0, 0)), "2 1");
    }

    private static void letOn() {
        Publicanry p = Made.rich();
        p.village(10, 600, 100, 9);
        Made.lease(p, 0, Made.TENTH, 3, 2, 40);
        Check.is("one is let on", p.letOn(0, 1, 45), 1);
        p.pass(2);
        Check.isText("by the company", levy(p, 0, 0), "0 63 40 63 0 0");
        Check.isText("by the agent", levy(p, 1, 0), "0 86 86 63 0 0");
        Check.isText("to the company", Check.row(p.ofCompany(0, 2), p.ofCompany(0, 11)), Check.row(376 + 80 + 45, 125));
        Check.is("to the world", p.land(8), -396 - 80 - 45);
        Check.isText("unrest", Check.row(p.ofVillage(0, 7), p.ofVillage(1, 7)), "0 2");
        Check.is("without agents", p.wouldBring(0, 0), 160);
        p.force(0, 3);
        Check.is("both are let on", p.letOn(0, 0, 999), 2);
        p.pass(4);
        Check.is("in each autumn", p.ofCompany(0, 11), 125 + 45 + 999);
        Check.is("of one that is over", p.ofLot(0, 10), 2);
        Publicanry q = Made.rich();
        Made.lease(q, 0, Made.HEARTH, 1, 1, 40);
        q.letOn(0, 0, 5);
        q.pass(2);
        Check.isText("an agent lets borrow", Check.row(q.ofVillage(0, 6), q.levy(0, 2, 2), q.ofCompany(0, 2), q.land(8)),
            Check.row(27, 27, 361, -396 - 5));
    }

    private static void letOnWrong() {
        Publicanry p = Made.rich();
        p.village(1, 1, 1, 1);
        p.lot(0, 1, 1, 0);
        Check.isRefused("of a lot that is offered", p, () -> p.letOn(0, 0, 1));
        p.bid(0, 0, 40);
        p.award(0);
        Check.isWrong("price 0", p, () -> p.letOn(0, 0, 0));
        Check.isWrong("price 1000", p, () -> p.letOn(0, 0, 1000));
        Check.noSuch("lot 1", p, () -> p.letOn(1, 0, 0));
        Check.noSuch("lot -1", p, () -> p.letOn(-1, 0, 1));
        Check.noSuch("village 2", p, () -> p.letOn(0, 2, 0));
        Check.noSuch("village -1", p, () -> p.letOn(0, -1, 1));
        Check.isRefused("a village that is not in its set", p, () -> p.letOn(0, 1, 1));
        Check.is("for 1", p.letOn(0, 0, 1), 1);
        Check.isRefused("let on already", p, () -> p.letOn(0, 0, 1));
        p.pass(2);
        Check.is("1 is brought", p.ofCompany(0, 11), 1);
        Check.isRefused("of a lot that is over", p, () -> p.letOn(0, 0, 1));
    }

    private static void letOnInRevolt() {
        Publicanry p = Made.rich();
        Made.lease(p, 0, Made.TENTH, 1, 1, 40);
        p.letOn(0, 0, 50);
        for (int k = 0; k < 7; k++) {
            p.quarter(0);
        }
        p.pass(2);
        Check.isText("in revolt no agent pays", Check.row(p.ofVillage(0, 10), p.ofCompany(0, 11), p.levy(0, 0, 0)), "1 0 -1");
        Check.is("the lot is over all the same", p.ofLot(0, 4), 2);
    }

    private static void levy() {
        Publicanry p = Made.rich();
        Check.isText("without one", levy(p, 0, 0), "-1 -1 -1 -1 -1 0");
        p.edict(0, 50, 0);
        p.pass(4);
        Made.lease(p, 0, Made.TENTH, 1, 1, 40);
        p.pass(2);
        Check.isText("by the stone; by the law", levy(p, 0, 0), "1 72 45 36 0 0");
        p.sue(0, 0);
        Check.isText("sued for", levy(p, 0, 0), "1 72 45 36 0 1");
        p.edict(0, 0, 0);
        p.pass(2);
        p.cut(0);
        Made.lease(p, 0, Made.TENTH, 1, 1, 40);
        p.pass(4);
        Check.isText("the latest one, also of 0", levy(p, 0, 0), "2 0 0 0 1 0");
        Check.isText("of another duty", levy(p, 0, 1), "-1 -1 -1 -1 -1 0");
        Check.isWrong("what -1", p, () -> p.levy(0, 0, -1));
        Check.isWrong("what 6", p, () -> p.levy(0, 0, 6));
        Check.noSuch("village 1", p, () -> p.levy(1, 0, 6));
        Check.noSuch("village -1", p, () -> p.levy(-1, 0, 0));
        Check.noSuch("duty 3", p, () -> p.levy(0, 3, 6));
        Check.noSuch("duty -1", p, () -> p.levy(0, -1, 0));
    }

    private static void wouldBring() {
        Publicanry p = Made.rich();
        p.village(10, 600, 100, 9);
        p.village(10, 600, 100, 9);
        p.lot(0, 3, 1, 0);
        p.lot(2, 2, 1, 0);
        Check.isText("in spring", Check.row(p.wouldBring(0, 0), p.wouldBring(0, 3), p.bestForce(0)), "0 0 0");
        p.pass(1);
        Check.isText("the tenth of two", Check.row(p.wouldBring(0, 0), p.wouldBring(0, 1), p.wouldBring(0, 2),
            p.wouldBring(0, 3), p.bestForce(0)), "160 212 276 344 3");
        Check.isText("hearths without coins", Check.row(p.wouldBring(1, 0), p.wouldBring(1, 1), p.wouldBring(1, 2),
            p.wouldBring(1, 3), p.bestForce(1)), "0 0 22 27 3");
        for (int k = 0; k < 5; k++) {
            p.quarter(0);
        }
        p.award(0);
        Check.is("of one that failed too", p.wouldBring(0, 3), 172 + 2 * (86 - 16));
        p.pass(1);
        Check.is("without those in revolt", p.wouldBring(0, 3), 172);
        Check.isWrong("force -1", p, () -> p.wouldBring(0, -1));
        Check.isWrong("force 4", p, () -> p.wouldBring(0, 4));
        Check.noSuch("lot 2", p, () -> p.wouldBring(2, 4));
        Check.noSuch("lot -1", p, () -> p.wouldBring(-1, 0));
        Check.noSuch("best force of lot 2", p, () -> p.bestForce(2));
        Check.noSuch("best force of lot -1", p, () -> p.bestForce(-1));
    }

    private static void bestForceOfLittleGrain() {
        Publicanry p = new Publicanry();
        p.village(90, 0, 0, 9);
        p.lot(0, 1, 1, 0);
        p.edict(0, 300, 0);
        p.pass(4);
        p.cut(0);
        p.clear(0, 100);
        p.pass(1);
        Check.isText("grain of 30 is there", Check.row(p.ofVillage(0, 4), p.wouldBring(0, 0), p.wouldBring(0, 1),
            p.wouldBring(0, 2), p.wouldBring(0, 3)), "30 46 60 60 60");
        Check.is("of several the smallest force", p.bestForce(0), 1);
    }
}
