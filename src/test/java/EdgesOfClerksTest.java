/** Sentences of section 9 that name an edge, and edges of what is asked of the whole province. */
final class EdgesOfClerksTest {
    private EdgesOfClerksTest() {
    }

    static void run() {
        fourOrNothing();
        nothingIsAskedWithoutFour();
        whatCameInPaysTheNext();
        dutyByDuty();
        whoIsAsked();
        clerksOfTheLastAutumn();
        hiddenWithAForceOfOne();
        chestAsFarAsItGoes();
        noLevyNoUnrest();
        byTheLawAsItIs();
        exemptByTheStone();
        agentsVillagesAreLeased();
        directAsIfItHadEnough();
        directIsWhatComes();
        guard();
        tellWithoutDebt();
        gainOfNothing();
    }

    /** So many villages without coins, asked for hearths by clerks in the first autumn. */
    private static Publicanry poor(int villages, int treasury) {
        Publicanry p = Made.withTreasury(treasury);
        for (int k = 1; k < villages; k++) {
            p.village(10, 0, 0, 1);
        }
        p.clerks(Made.HEARTH, true);
        p.pass(2);
        return p;
    }

    private static void fourOrNothing() {
        int[] coins = {1, 3, 4, 5, 7, 8, 11, 12, 13, 40};
        int[] left = {1, 3, 0, 1, 3, 0, 3, 0, 1, 28};
        for (int k = 0; k < coins.length; k++) {
            Publicanry p = poor(3, coins[k]);
            Check.isText("three villages by " + coins[k], Check.row(p.land(6), p.law(2, 4)), Check.row(left[k], 0));
        }
        Check.is("eight villages by 40", poor(8, 40).land(6), 8);
        Check.is("eight villages by 31", poor(8, 31).land(6), 3);
    }

    private static void nothingIsAskedWithoutFour() {
        int[] coins = {3, 4, 7, 8};
        int[] brought = {0, 0, 0, 96};
        for (int k = 0; k < coins.length; k++) {
            Publicanry p = new Publicanry();
            p.village(10, 0, 0, 9);
            p.village(10, 600, 0, 9);
            p.company(100, 0);
            p.join(0, 9);
            Made.lease(p, 0, Made.PASTURE, 1, 1, coins[k]);
            p.clerks(Made.TENTH, true);
            p.pass(2);
            Check.isText("the second one by " + coins[k], Check.row(p.law(0, 4), p.ofVillage(1, 4)),
                Check.row(brought[k], 650 - brought[k] / 2));
        }
    }

    private static void whatCameInPaysTheNext() {
        Publicanry p = Made.withTreasury(4);
        for (int k = 1; k < 8; k++) {
            p.village(10, 600, 0, 9);
        }
        p.clerks(Made.TENTH, true);
        p.pass(2);
        Check.isText("eight villages by 4", Check.row(p.law(0, 4), p.land(6)), Check.row(8 * 96, 4 + 8 * 92));
    }

    private static void dutyByDuty() {
        Publicanry p = Made.withTreasury(4);
        for (int duty = 0; duty < 3; duty++) {
            p.clerks(duty, true);
        }
        p.pass(2);
        Check.isText("the tenth pays for hearths; pastures are leased till then", Check.row(p.law(0, 4), p.law(1, 4), p.law(2, 4),
            p.land(6)), Check.row(96, 0, 0, 96 - 8));
        Publicanry q = new Publicanry();
        q.village(10, 0, 0, 1);
        q.village(10, 600, 0, 9);
        q.company(100, 0);
        q.join(0, 9);
        Made.lease(q, 0, Made.HEARTH, 1, 1, 8);
        q.clerks(Made.PASTURE, true);
        q.clerks(Made.TENTH, true);
        q.pass(2);
        Check.isText("the tenth of both, then pastures", Check.row(q.law(0, 4), q.land(6)), Check.row(96, 96 - 8));
    }

    private static void whoIsAsked() {
        Publicanry p = new Publicanry();
        for (int k = 0; k < 5; k++) {
            p.village(10, 600, 0, 9);
        }
        p.company(1000, 0);
        p.join(0, 99);
        Made.lease(p, 0, Made.TENTH, 1, 2, 20);
        Made.lease(p, 0, Made.HEARTH, 2, 2, 20);
        p.lot(Made.TENTH, 4, 1, 0);
        p.lot(Made.TENTH, 8, 1, 0);
        p.award(3);
        for (int k = 0; k < 7; k++) {
            p.quarter(4);
        }
        p.clerks(Made.TENTH, true);
        p.pass(1);
        Check.is("without one leased and one in revolt", p.direct(0), 3 * 92);
        p.pass(1);
        Check.is("of another duty, offered, failed", p.law(0, 4), 3 * 96);
    }

    private static void clerksOfTheLastAutumn() {
        Publicanry p = Made.rich();
        Made.lease(p, 0, Made.TENTH, 1, 2, 40);
        p.clerks(Made.TENTH, true);
        p.pass(2);
        Check.is("not in the first autumn", p.law(0, 4), 0);
        p.pass(4);
        Check.isText("in the last one, of what is left", Check.row(p.levy(0, 0, 0), p.law(0, 4)), Check.row(1, 2 * 54));
        Publicanry q = Made.rich();
        Made.lease(q, 0, Made.TENTH, 1, 5, 40);
        q.clerks(Made.TENTH, true);
        q.pass(1);
        Made.leave(q, 0, 0);
        Made.lease(q, 0, Made.HEARTH, 1, 1, 4);
        q.pass(1);
        Check.isText("of one that is over by a default", Check.row(q.levy(0, 0, 0), q.law(0, 4)), "-1 96");
    }

    private static void hiddenWithAForceOfOne() {
        int[] quarters = {0, 1, 2, 3};
        for (int many : quarters) {
            Publicanry p = Made.withTreasury(20);
            p.clerks(Made.TENTH, true);
            p.pass(1);
            for (int k = 0; k < many; k++) {
                p.quarter(0);
            }
            int hidden = 63 * (4 + 3 * many / 4) / 16;
            Check.is("direct with unrest " + 3 * many, p.direct(0), 2 * (63 - hidden) - 4);
            p.pass(1);
            Check.is("brought with unrest " + 3 * many, p.law(0, 4), 2 * (63 - hidden));
        }
    }

    /** Coins of 14, 4 or 0 in autumn; 15 are paid of 20 that are due, if they are there. */
    private static void chestAsFarAsItGoes() {
        for (int many = 0; many <= 2; many++) {
            Publicanry p = new Publicanry();
            p.village(10, 100, 0, 1);
            p.company(2000, 0);
            p.join(0, 99);
            p.force(0, 3);
            Made.lease(p, 0, Made.HEARTH, 1, 1, 40);
            p.pass(3);
            p.sue(0, 2);
            for (int k = 0; k < many; k++) {
                p.quarter(0);
            }
            p.clerks(Made.HEARTH, true);
            p.pass(2);
            int coins = p.ofVillage(0, 5);
            Check.is("coins", coins, many == 0 ? 14 : many == 1 ? 4 : 0);
            int debt = p.ofVillage(0, 6);
            p.pass(1);
            Check.isText("brought, chest, debt", Check.row(p.law(2, 4), p.ofVillage(0, 5), p.ofVillage(0, 6)),
                Check.row(coins, 0, debt));
        }
        Publicanry q = Made.withTreasury(40);
        q.clerks(Made.HEARTH, true);
        q.pass(6);
        Check.isText("15 of many", Check.row(q.law(2, 4), q.ofVillage(0, 5)), Check.row(15, 1160 - 15));
    }

    private static void noLevyNoUnrest() {
        Publicanry p = Made.withTreasury(40);
        for (int duty = 0; duty < 3; duty++) {
            p.clerks(duty, true);
        }
        p.quarter(0);
        p.pass(2);
        Check.isText("no levy", Check.row(p.levy(0, 0, 0), p.levy(0, 2, 0)), "-1 -1");
        Check.is("unrest is less", p.ofVillage(0, 7), 1);
        Check.isRefused("nobody can sue for that", p, () -> p.sue(0, 0));
    }

    private static void byTheLawAsItIs() {
        Publicanry p = Made.withTreasury(40);
        p.edict(0, 200, 2);
        p.village(10, 600, 0, 9);
        p.clerks(Made.TENTH, true);
        p.pass(5);
        Check.isText("144 by the law, exempt by the law", Check.row(p.due(0, 0, true), p.due(1, 0, true)), "144 0");
        Check.is("not by the stone", p.direct(0), 2 * (144 - 36) - 8);
    }

    /** Its stone tells that it is exempt, the law of the third year that it is not. */
    private static void exemptByTheStone() {
        Publicanry p = new Publicanry();
        p.company(1000, 0);
        p.join(0, 99);
        p.edict(0, 100, 1);
        p.pass(4);
        p.village(10, 600, 0, 9);
        Made.lease(p, 0, Made.HEARTH, 1, 5, 40);
        p.edict(0, 100, 0);
        p.clerks(Made.TENTH, true);
        p.pass(5);
        Check.isText("due", Check.row(p.due(0, 0, false), p.due(0, 0, true), p.direct(0)), Check.row(0, 36, 2 * 27 - 4));
        p.pass(1);
        Check.is("brought", p.law(0, 4), 54);
    }

    private static void agentsVillagesAreLeased() {
        Publicanry p = Made.rich();
        Made.lease(p, 0, Made.TENTH, 1, 2, 40);
        p.letOn(0, 0, 1);
        p.clerks(Made.TENTH, true);
        Check.is("direct", p.direct(0), 0);
        p.pass(2);
        Check.isText("clerks ask nothing of them", Check.row(p.law(0, 4), p.land(6)), "0 20");
    }

    private static void directAsIfItHadEnough() {
        Publicanry p = new Publicanry();
        for (int k = 0; k < 8; k++) {
            Check.is("of " + k + " villages", p.direct(2), -4 * k);
            p.village(90, 0, 0, 1);
        }
        Check.isText("an empty treasury", Check.row(p.direct(0), p.direct(1), p.direct(2), p.land(6)), "-32 -32 -32 0");
    }

    private static void directIsWhatComes() {
        for (int duty = 0; duty < 3; duty++) {
            Publicanry p = new Publicanry();
            for (int k = 0; k < 8; k++) {
                p.village(5 + 9 * k, 600 - 70 * k, 37 * k, 9 - k);
            }
            p.company(2000, 0);
            p.join(0, 99);
            p.pass(4);
            int other = duty == 1 ? 2 : 1;
            Made.lease(p, 0, other, 1, 5, 300);
            p.clerks(duty, true);
            p.pass(1);
            int direct = p.direct(duty);
            int treasury = p.land(6);
            p.pass(1);
            Check.isText("what comes of " + duty, Check.row(p.land(6) - treasury, p.law(duty, 4)), Check.row(direct, direct + 32));
        }
    }

    private static void guard() {
        Publicanry p = new Publicanry();
        Check.is("nobody was refused", p.land(16), 0);
        for (int k = 1; k <= 20; k++) {
            Check.is("with this", p.call(), k);
        }
        Check.is("ever", p.land(16), 20);
    }

    private static void tellWithoutDebt() {
        Publicanry p = new Publicanry();
        for (int k = 0; k < 8; k++) {
            p.village(1 + 12 * k, 0, 0, 1);
        }
        Check.isText("the first one", p.tell(0), "0: 1 houses");
        Check.isText("the last one", p.tell(7), "7: 85 houses");
        p.pass(5);
        Check.isText("owes 4", p.tell(0), "0: 1 houses, owes 4");
        for (int k = 0; k < 7; k++) {
            p.quarter(1);
        }
        p.pass(1);
        Check.isText("revolt, not burnt", p.tell(1), "1: 13 houses, revolt, owes 104");
        Publicanry q = new Publicanry();
        q.village(10, 600, 0, 9);
        for (int k = 0; k < 7; k++) {
            q.quarter(0);
        }
        q.pass(1);
        Check.isText("revolt, no debt", q.tell(0), "0: 10 houses, revolt");
        q.war(1);
        Check.isText("revolt, burnt, no debt", q.tell(0), "0: 10 houses, revolt, burnt");
    }

    private static void gainOfNothing() {
        Publicanry p = Made.rich();
        Check.isReal("nothing for nothing", p.gain(0), 0.0);
        Made.lease(p, 0, Made.HEARTH, 1, 1, 3);
        Check.isReal("nothing for 3", p.gain(0), 0.0);
        p.force(0, 2);
        p.pass(2);
        Check.isReal("22 for 3", p.gain(0), 22.0 / 3.0);
        Publicanry q = Made.rich();
        Made.leave(q, 0, 0);
        Made.lease(q, 0, Made.HEARTH, 1, 1, 4);
        Check.isReal("land that is sold is not paid", q.gain(0), 0.0);
    }
}
