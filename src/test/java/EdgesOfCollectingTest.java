/** Sentences of section 5 that name an edge: what is asked, hidden, paid, borrowed; terms and agents. */
final class EdgesOfCollectingTest {
    private EdgesOfCollectingTest() {
    }

    static void run() {
        askedIsAnEighthMore();
        hiddenByUnrest();
        hiddenIsRoundedDown();
        grainAsMuchAsThereIs();
        chestAsFarAsItGoes();
        borrowedByForceOfTwo();
        unrestIsForceMore();
        levyOfNothing();
        fromTheNextAutumnOn();
        asManyAutumnsAsTheTerm();
        nextLotFindsTheRest();
        agentPaysInEachAutumn();
        agentPaysForNothing();
        agentNotInRevolt();
        agentBorrows();
        latestLevyAlone();
        wouldBringByTheStone();
        bestForceIsTheSmallest();
    }

    private static final int[] EIGHTHS = {8, 9, 10, 11};

    /** What is due and its eighths, written the other way round: the floor of all eighths. */
    private static int asked(int due, int force) {
        return due * EIGHTHS[force] / 8;
    }

    private static void askedIsAnEighthMore() {
        for (int houses : new int[] {1, 2, 3, 4, 5, 7, 8, 12, 90}) {
            for (int force = 0; force < 4; force++) {
                Publicanry p = new Publicanry();
                p.village(houses, 0, 0, 1);
                p.company(100, 0);
                p.join(0, 9);
                p.force(0, force);
                Made.lease(p, 0, Made.HEARTH, 1, 1, 4);
                p.pass(2);
                Check.is("asked of " + houses + " with a force of " + force, p.levy(0, 2, 1), asked(2 * houses, force));
            }
        }
        Publicanry q = Made.rich();
        q.village(1, 0, 10, 1);
        q.force(0, 3);
        Made.lease(q, 0, Made.PASTURE, 2, 1, 4);
        q.pass(2);
        Check.is("1 * 3 / 8 is nothing", q.levy(1, 1, 1), 1);
    }

    /** Unrest of 1, 2 or 3 and then 3 more by each quarter, without a season that asks for a revolt. */
    private static Publicanry withUnrest(int unrest) {
        Publicanry p = new Publicanry();
        p.village(90, 0, 0, 1);
        p.lot(Made.HEARTH, 1, 1, 0);
        p.edict(2, 9, 0);
        p.pass(1);
        if (unrest > 0 && unrest < 20) {
            p.quarter(0);
            int wait = (3 - unrest % 3) % 3;
            if (wait > 0) {
                p.pass(wait);
            }
        }
        for (int k = 0; k < 7 && p.ofVillage(0, 7) < unrest; k++) {
            p.quarter(0);
        }
        Check.is("unrest", p.ofVillage(0, 7), unrest);
        return p;
    }

    private static void hiddenByUnrest() {
        for (int unrest = 0; unrest <= 20; unrest++) {
            Publicanry p = withUnrest(unrest);
            int with2 = asked(180, 2);
            int with3 = asked(180, 3);
            Check.is("unrest " + unrest + ", force 2", p.wouldBring(0, 2), with2 - with2 * (2 + unrest / 4) / 16);
            Check.is("unrest " + unrest + ", force 3", p.wouldBring(0, 3), with3 - with3 * (unrest / 4) / 16);
        }
    }

    private static void hiddenIsRoundedDown() {
        int[] yields = {10, 21, 31, 42, 51, 63, 100};
        int[] fields = {10, 20, 30, 40, 49, 60, 96};
        int[] paid = {1, 2, 2, 3, 4, 4, 7};
        for (int k = 0; k < fields.length; k++) {
            Publicanry p = Made.rich();
            p.village(1, fields[k], 0, 9);
            Made.lease(p, 0, Made.TENTH, 2, 1, 4);
            p.pass(2);
            Check.isText("of a yield of " + yields[k], Check.row(p.ofVillage(1, 9), p.levy(1, 0, 1), p.levy(1, 0, 2)),
                Check.row(yields[k], yields[k] / 10, paid[k]));
        }
    }

    /** In the second summer there is grain of 30, and the stone asks 36 of a yield of 120. */
    private static Publicanry littleGrain() {
        Publicanry p = new Publicanry();
        p.village(90, 0, 0, 9);
        p.company(2000, 0);
        p.join(0, 99);
        p.edict(0, 300, 0);
        p.pass(4);
        p.cut(0);
        p.clear(0, 100);
        Made.lease(p, 0, Made.TENTH, 1, 1, 4);
        p.pass(1);
        Check.isText("grain and due", Check.row(p.ofVillage(0, 4), p.due(0, 0, false)), "30 36");
        return p;
    }

    private static void grainAsMuchAsThereIs() {
        int[] got = {23, 30, 30, 30};
        for (int force = 0; force < 4; force++) {
            Publicanry p = littleGrain();
            p.force(0, force);
            int debt = p.ofVillage(0, 6);
            p.pass(1);
            Check.isText("with a force of " + force, Check.row(p.levy(0, 0, 1), p.levy(0, 0, 2), p.ofCompany(0, 11)),
                Check.row(asked(36, force), got[force], 2 * got[force]));
            int lacking = 90 - (30 - got[force]);
            Check.is("what is lacking of the tenth is not borrowed", p.ofVillage(0, 6), debt + 4 * lacking);
        }
    }

    /** Coins of a suit: 14, and grain enough till the second autumn; its herd is then of this size. */
    private static Publicanry withCoins(int herd) {
        Publicanry p = new Publicanry();
        p.village(10, 100, 0, 1);
        p.village(10, 100, herd, 1);
        p.company(2000, 0);
        p.join(0, 99);
        p.force(0, 3);
        Made.lease(p, 0, Made.HEARTH, 2, 1, 4);
        p.pass(3);
        p.sue(1, 2);
        p.pass(2);
        Check.isText("coins and herd", Check.row(p.ofVillage(1, 5), p.ofVillage(1, 7)), "14 0");
        return p;
    }

    private static void chestAsFarAsItGoes() {
        int[] herds = {174, 182, 191};
        int[] due = {21, 22, 23};
        int[] paid = {14, 14, 15};
        for (int k = 0; k < herds.length; k++) {
            Publicanry p = withCoins(herds[k]);
            p.force(0, 0);
            int lot = Made.lease(p, 0, Made.PASTURE, 2, 1, 4);
            Check.is("would bring", p.wouldBring(lot, 0), 14);
            int debt = p.ofVillage(1, 6);
            p.pass(1);
            Check.isText(paid[k] + " of 14", Check.row(p.levy(1, 1, 1), p.levy(1, 1, 2), p.ofVillage(1, 5)),
                Check.row(due[k], 14, 0));
            Check.is("nothing is borrowed", p.ofVillage(1, 6), debt);
        }
        Publicanry q = withCoins(165);
        q.force(0, 0);
        Made.lease(q, 0, Made.PASTURE, 2, 1, 4);
        q.pass(1);
        Check.isText("12 of 14", Check.row(q.levy(1, 1, 1), q.levy(1, 1, 2), q.ofVillage(1, 5)), "19 12 2");
    }

    private static void borrowedByForceOfTwo() {
        int[] got = {13, 14, 22, 27};
        int[] borrowed = {0, 0, 8, 13};
        for (int force = 0; force < 4; force++) {
            Publicanry p = withCoins(0);
            p.force(0, force);
            Made.lease(p, 0, Made.HEARTH, 2, 1, 4);
            int debt = p.ofVillage(1, 6);
            int coins = p.ofCompany(0, 2);
            p.pass(1);
            Check.isText("with a force of " + force, Check.row(p.levy(1, 2, 1), p.levy(1, 2, 2), p.ofVillage(1, 5),
                p.ofVillage(1, 6)), Check.row(asked(20, force), got[force], force == 0 ? 1 : 0, debt + borrowed[force]));
            Check.is("the company has it like the rest", p.ofCompany(0, 2), coins + got[force]);
        }
    }

    private static void unrestIsForceMore() {
        for (int force = 0; force < 4; force++) {
            Publicanry p = Made.rich();
            p.force(0, force);
            Made.lease(p, 0, Made.TENTH, 1, 1, 4);
            p.pass(1);
            p.quarter(0);
            p.pass(1);
            Check.is("3 and " + force + " less 1", p.ofVillage(0, 7), 2 + force);
            Publicanry q = Made.rich();
            q.force(0, force);
            Made.lease(q, 0, Made.TENTH, 1, 1, 4);
            q.pass(1);
            for (int k = 0; k < 7; k++) {
                q.quarter(0);
            }
            q.pass(1);
            Check.is("20 and " + force + " less 1", q.ofVillage(0, 7), 19);
        }
    }

    private static void levyOfNothing() {
        Publicanry p = new Publicanry();
        p.edict(2, 9, 1);
        p.pass(4);
        p.village(10, 0, 0, 1);
        p.company(100, 0);
        p.join(0, 9);
        p.force(0, 3);
        for (int duty = 0; duty < 3; duty++) {
            Made.lease(p, 0, duty, 1, 1, 1);
        }
        p.pass(2);
        for (int duty = 0; duty < 3; duty++) {
            Check.isText("without fields, without a herd, exempt", Check.row(p.levy(0, duty, 0), p.levy(0, duty, 1),
                p.levy(0, duty, 2), p.levy(0, duty, 3), p.levy(0, duty, 4), p.levy(0, duty, 5)), Check.row(1, 0, 0, 0, duty, 0));
        }
        Check.is("unrest is more all the same", p.ofVillage(0, 7), 8);
        Check.is("lost without anything over", p.sue(0, 0), 0);
        Check.is("it was sued for", p.levy(0, 0, 5), 1);
    }

    private static void fromTheNextAutumnOn() {
        for (int season = 0; season < 4; season++) {
            Publicanry p = Made.rich();
            if (season > 0) {
                p.pass(season);
            }
            Made.lease(p, 0, Made.TENTH, 1, 1, 4);
            int wait = season < 2 ? 2 - season : 6 - season;
            if (wait > 1) {
                p.pass(wait - 1);
            }
            Check.isText("ahead of its autumn", Check.row(p.ofLot(0, 4), p.ofLot(0, 8), p.levy(0, 0, 0)), "1 1 -1");
            p.pass(1);
            Check.isText("behind it", Check.row(p.ofLot(0, 4), p.ofLot(0, 8), p.levy(0, 0, 0)), Check.row(2, 0, season < 2 ? 0 : 1));
        }
    }

    private static void asManyAutumnsAsTheTerm() {
        for (int term = 1; term <= 5; term++) {
            Publicanry p = Made.rich();
            Made.lease(p, 0, Made.TENTH, 1, term, 50);
            p.pass(1);
            for (int year = 0; year < term; year++) {
                Check.isText("term " + term + ", summer " + year, Check.row(p.ofLot(0, 4), p.ofLot(0, 8)), Check.row(1, term - year));
                p.pass(1);
                Check.is("a levy in each autumn", p.levy(0, 0, 0), year);
                p.pass(3);
            }
            Check.isText("over", Check.row(p.ofLot(0, 4), p.ofLot(0, 8), p.ofLot(0, 11)), Check.row(2, 0, term));
            p.pass(4);
            Check.is("no levy more", p.levy(0, 0, 0), term - 1);
        }
    }

    /** The lot with the smaller number takes what is in the chest. */
    private static void nextLotFindsTheRest() {
        Publicanry p = withCoins(174);
        p.force(0, 0);
        Made.lease(p, 0, Made.PASTURE, 2, 1, 4);
        Made.lease(p, 0, Made.HEARTH, 2, 1, 4);
        p.pass(1);
        Check.isText("14, then nothing", Check.row(p.levy(1, 1, 2), p.levy(1, 2, 2)), "14 0");
        Publicanry q = withCoins(174);
        q.force(0, 0);
        Made.lease(q, 0, Made.HEARTH, 2, 1, 4);
        Made.lease(q, 0, Made.PASTURE, 2, 1, 4);
        q.pass(1);
        Check.isText("13, then 1", Check.row(q.levy(1, 2, 2), q.levy(1, 1, 2)), "13 1");
    }

    private static void agentPaysInEachAutumn() {
        for (int price : new int[] {1, 999}) {
            Publicanry p = Made.rich();
            Made.lease(p, 0, Made.TENTH, 1, 3, 30);
            p.pass(2);
            int brought = p.ofCompany(0, 11);
            Check.is("let on behind its first autumn", p.letOn(0, 0, price), 1);
            for (int year = 0; year < 5; year++) {
                Check.is("for " + price + ", year " + year, p.ofCompany(0, 11), brought + Math.min(year, 2) * price);
                p.pass(4);
            }
            Check.is("of one that is over", p.ofLot(0, 10), 1);
        }
    }

    private static void agentPaysForNothing() {
        Publicanry p = Made.rich();
        p.village(10, 0, 0, 1);
        Made.lease(p, 0, Made.TENTH, 2, 1, 4);
        p.letOn(0, 1, 30);
        p.pass(2);
        Check.isText("its price for nothing", Check.row(p.ofCompany(0, 11), p.levy(1, 0, 0), p.levy(1, 0, 2)), "30 0 0");
        Check.is("with a force of 3", p.ofVillage(1, 7), 2);
    }

    private static void agentNotInRevolt() {
        Publicanry p = Made.rich();
        p.village(10, 600, 0, 9);
        Made.lease(p, 0, Made.TENTH, 3, 1, 4);
        p.letOn(0, 0, 30);
        p.letOn(0, 1, 50);
        p.pass(1);
        for (int k = 0; k < 5; k++) {
            p.quarter(0);
        }
        Check.is("15 is no revolt yet", p.ofVillage(0, 10), 0);
        p.pass(1);
        Check.isText("both agents pay", Check.row(p.ofCompany(0, 11), p.ofVillage(0, 10)), "80 1");
        int coins = p.ofCompany(0, 2);
        Made.lease(p, 0, Made.TENTH, 3, 1, 4);
        p.letOn(1, 0, 30);
        p.letOn(1, 1, 50);
        p.pass(4);
        Check.isText("one of them does", Check.row(p.ofCompany(0, 11), p.ofVillage(0, 10), p.levy(0, 0, 0)), "130 1 0");
        Check.is("its chest", p.ofCompany(0, 2), coins - 4 + 50);
    }

    private static void agentBorrows() {
        Publicanry p = Made.rich();
        Made.lease(p, 0, Made.HEARTH, 1, 1, 4);
        p.letOn(0, 0, 1);
        int world = p.land(8);
        p.pass(2);
        Check.isText("what is borrowed goes to the world", Check.row(p.ofVillage(0, 6), p.levy(0, 2, 2), p.ofCompany(0, 11)),
            "27 27 1");
        Check.is("but for the price", p.land(8), world - 1);
    }

    private static void latestLevyAlone() {
        Publicanry p = Made.rich();
        Made.lease(p, 0, Made.TENTH, 1, 1, 4);
        p.pass(2);
        p.sue(0, 0);
        Check.isText("of lot 0", Check.row(p.levy(0, 0, 0), p.levy(0, 0, 4), p.levy(0, 0, 5)), "0 0 1");
        p.pass(4);
        Check.isText("kept without another one", Check.row(p.levy(0, 0, 0), p.levy(0, 0, 4), p.levy(0, 0, 5)), "0 0 1");
        p.company(100, 0);
        p.join(1, 9);
        Made.lease(p, 1, Made.TENTH, 1, 1, 4);
        p.pass(4);
        Check.isText("of lot 1", Check.row(p.levy(0, 0, 0), p.levy(0, 0, 4), p.levy(0, 0, 5)), "2 1 0");
    }

    private static void wouldBringByTheStone() {
        Publicanry p = new Publicanry();
        p.village(10, 0, 0, 1);
        p.edict(2, 9, 0);
        p.lot(Made.HEARTH, 1, 1, 0);
        p.pass(4);
        Check.isText("20 by the stone, 90 by the law", Check.row(p.due(0, 2, false), p.due(0, 2, true), p.wouldBring(0, 2),
            p.wouldBring(0, 3)), "20 90 22 27");
        p.cut(0);
        Check.isText("90 by a new stone", Check.row(p.wouldBring(0, 2), p.wouldBring(0, 3)), "98 123");
    }

    private static void bestForceIsTheSmallest() {
        Publicanry p = new Publicanry();
        p.village(10, 0, 0, 1);
        p.lot(Made.TENTH, 1, 1, 0);
        p.lot(Made.HEARTH, 1, 1, 0);
        p.pass(1);
        Check.is("of four that bring nothing", p.bestForce(0), 0);
        Check.is("3 by borrowing", p.bestForce(1), 3);
        Publicanry q = littleGrain();
        Check.is("of three that bring all grain", q.bestForce(0), 1);
        Publicanry r = new Publicanry();
        r.village(1, 0, 0, 1);
        r.lot(Made.HEARTH, 1, 1, 0);
        Check.isText("2 by force 2 and 3", Check.row(r.wouldBring(0, 1), r.wouldBring(0, 2), r.wouldBring(0, 3)), "0 2 2");
        Check.is("of two that bring the same", r.bestForce(0), 2);
    }
}
