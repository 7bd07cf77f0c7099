/** Sentences of sections 0 to 2 that name an edge: seasons, chests, land, harvests, laws. */
final class EdgesOfLandTest {
    private EdgesOfLandTest() {
    }

    static void run() {
        yearIsAFourthOfTheSeason();
        skyOfTheNextYear();
        allCoinsTogether();
        surveyIsPaidAsFarAsItGoes();
        surveyCostsByFifties();
        stoneIsPaidAsFarAsItGoes();
        grainAsItIsTold();
        fieldsAreAtMost600();
        productFirst();
        halfIfBurnt();
        burntTillTheNextSpring();
        herdsAreATenthMore();
        sellAboveSixForEachHouse();
        payBackAsMuchAsThereIs();
        edictFromTheNextSpring();
        numberOfTheLaw();
        edictOfNothing();
        exemptOfEach();
        stoneAsTheLawIs();
        dueAheadOfTheSummer();
        dueIsRoundedDown();
        dueAtMost();
    }

    private static void yearIsAFourthOfTheSeason() {
        Publicanry p = new Publicanry();
        int[] seasons = {0, 3, 4, 7, 8, 20, 40, 60, 80, 100, 120, 140, 159, 160};
        for (int season : seasons) {
            if (season > p.land(0)) {
                p.pass(season - p.land(0));
            }
            Check.isText("season and year", Check.row(p.land(0), p.land(1)), Check.row(season, season / 4));
        }
    }

    /** From a bad one (0) and a good one (10) too; it is not told ahead of its spring. */
    private static void skyOfTheNextYear() {
        Publicanry p = new Publicanry();
        boolean isZero = false;
        boolean isTen = false;
        for (int year = 0; year < 40; year++) {
            int sky = p.land(2);
            isZero = isZero || sky == 0;
            isTen = isTen || sky == 10;
            Check.is("a sky is 0 to 10", sky >= 0 && sky <= 10, true);
            p.pass(3);
            Check.is("in winter it is that of the year", p.land(2), sky);
            p.pass(1);
            Check.is("in spring the next one", p.land(2), (7 * sky + 4) % 11);
        }
        Check.is("0 and 10 were there", isZero && isTen, true);
    }

    private static void allCoinsTogether() {
        Publicanry p = Made.two();
        Check.is("the world can be below 0", p.land(8), -792);
        Made.lease(p, 0, Made.PASTURE, 3, 1, 41);
        p.force(0, 3);
        p.gift(1, 7);
        p.deliver(1, 9);
        for (int season = 1; season <= 8; season++) {
            p.pass(1);
            p.quarter(0);
            int all = p.land(6) + p.land(7) + p.land(8);
            for (int k = 0; k < 2; k++) {
                all += p.ofVillage(k, 5) + p.ofCompany(k, 2);
            }
            Check.is("all chests in season " + season, all, 0);
        }
    }

    private static void surveyIsPaidAsFarAsItGoes() {
        int[] coins = {15, 14, 13, 1, 0};
        for (int had : coins) {
            Publicanry p = Made.withTreasury(had);
            Check.is("a survey by " + had, p.survey(0), 600);
            Check.isText("treasury and world", Check.row(p.land(6), p.land(8)),
                Check.row(Math.max(had - 14, 0), -396 + Math.min(had, 14)));
        }
    }

    private static void surveyCostsByFifties() {
        int[] fields = {0, 1, 49, 50, 99, 100, 599};
        int[] costs = {2, 2, 2, 3, 3, 4, 13};
        for (int k = 0; k < fields.length; k++) {
            Publicanry p = Made.withTreasury(20);
            p.village(1, fields[k], 0, 1);
            p.survey(1);
            Check.is("a survey of " + fields[k], 20 - p.land(6), costs[k]);
        }
        Publicanry q = Made.withTreasury(20);
        q.village(1, 49, 0, 1);
        q.clear(1, 1);
        q.survey(1);
        Check.is("by what was cleared", q.land(6), 17);
    }

    private static void stoneIsPaidAsFarAsItGoes() {
        int[] coins = {4, 3, 2, 0};
        for (int had : coins) {
            Publicanry p = Made.withTreasury(had);
            Check.is("a stone by " + had, p.cut(0), 0);
            Check.isText("treasury and world", Check.row(p.land(6), p.land(8)),
                Check.row(Math.max(had - 3, 0), -396 + Math.min(had, 3)));
        }
    }

    private static void grainAsItIsTold() {
        Publicanry p = new Publicanry();
        p.village(1, 0, 0, 1);
        p.village(90, 600, 600, 9);
        Check.isText("4 for each house", Check.row(p.ofVillage(0, 4), p.ofVillage(1, 4)), "4 360");
        Check.isText("the register is the fields", Check.row(p.ofVillage(0, 8), p.ofVillage(1, 8)), "0 600");
    }

    private static void fieldsAreAtMost600() {
        int[] fields = {0, 499, 500, 501, 599, 600};
        for (int had : fields) {
            for (int more : new int[] {1, 100}) {
                Publicanry p = new Publicanry();
                p.village(1, had, 0, 1);
                int want = Math.min(had + more, 600);
                Check.is("fields of " + had + " and " + more, p.clear(0, more), want);
                Check.isText("fields, register", Check.row(p.ofVillage(0, 1), p.ofVillage(0, 8)), Check.row(want, had));
            }
        }
    }

    private static void productFirst() {
        int[][] rows = {{29, 1, 0, 0}, {30, 1, 0, 1}, {59, 1, 0, 1}, {60, 1, 0, 2}, {4, 1, 10, 0}, {5, 1, 10, 1},
            {9, 1, 10, 1}, {0, 9, 10, 0}, {1, 9, 5, 1}, {600, 9, 10, 1080}, {599, 9, 10, 1078}, {7, 9, 5, 7}};
        for (int[] row : rows) {
            Publicanry p = new Publicanry();
            p.village(1, row[0], 0, row[1]);
            Check.is("fields " + row[0] + ", soil " + row[1] + ", sky " + row[2], p.harvest(0, row[2]), row[3]);
        }
    }

    private static void halfIfBurnt() {
        int[] fields = {0, 1, 2, 3, 7};
        int[] whole = {0, 1, 2, 3, 7};
        int[] half = {0, 0, 1, 1, 3};
        for (int k = 0; k < fields.length; k++) {
            Publicanry p = new Publicanry();
            p.village(1, fields[k], 0, 9);
            Check.is("fields of " + fields[k], p.harvest(0, 5), whole[k]);
            p.war(1);
            Check.is("burnt, fields of " + fields[k], p.harvest(0, 5), half[k]);
            p.pass(1);
            Check.is("brought in", p.ofVillage(0, 9), half[k]);
        }
    }

    private static void burntTillTheNextSpring() {
        for (int season = 0; season < 4; season++) {
            Publicanry p = new Publicanry();
            p.village(10, 600, 0, 9);
            if (season > 0) {
                p.pass(season);
            }
            p.war(1);
            Check.is("a war on one that is burnt", p.war(1), 1);
            Check.is("yield of the year", p.ofVillage(0, 9), season == 0 ? 0 : 630);
            for (int then = season; then < 4; then++) {
                Check.is("burnt in season " + then, p.ofVillage(0, 11), 1);
                p.pass(1);
            }
            Check.isText("nobody is in spring", Check.row(p.ofVillage(0, 11), p.war(0)), "0 0");
            p.pass(1);
            Check.is("a whole harvest then", p.ofVillage(0, 9), 720);
        }
    }

    private static void herdsAreATenthMore() {
        int[] herds = {0, 1, 9, 10, 19, 20, 540, 545, 546, 599, 600};
        int[] then = {0, 1, 9, 11, 20, 22, 594, 599, 600, 600, 600};
        for (int k = 0; k < herds.length; k++) {
            Publicanry p = new Publicanry();
            p.village(1, 0, herds[k], 1);
            p.pass(1);
            Check.is("a herd of " + herds[k], p.ofVillage(0, 2), then[k]);
            p.pass(3);
            Check.is("in summer alone", p.ofVillage(0, 2), then[k]);
        }
    }

    private static void sellAboveSixForEachHouse() {
        int[] fields = {47, 48, 49, 50};
        int[] grain = {59, 60, 60, 60};
        int[] coins = {0, 0, 2, 4};
        for (int k = 0; k < fields.length; k++) {
            Publicanry p = new Publicanry();
            p.village(10, fields[k], 0, 9);
            p.pass(2);
            Check.is("nothing is sold in autumn", p.ofVillage(0, 5), 0);
            p.pass(1);
            Check.isText("grain and coins, fields of " + fields[k], Check.row(p.ofVillage(0, 4), p.ofVillage(0, 5), p.land(8)),
                Check.row(grain[k], coins[k], -coins[k]));
        }
    }

    /** Herds of 10, 20 and 30 let it borrow 1, 2 and 3; it sells for 2. */
    private static void payBackAsMuchAsThereIs() {
        int[] coins = {1, 0, 0};
        int[] debts = {0, 0, 1};
        for (int k = 0; k < 3; k++) {
            Publicanry p = Made.rich();
            p.village(10, 49, 10 * (k + 1), 9);
            Made.lease(p, 0, Made.PASTURE, 2, 1, 4);
            p.force(0, 2);
            p.pass(2);
            Check.is("a debt", p.ofVillage(1, 6), k + 1);
            p.pass(1);
            Check.isText("paid back of " + (k + 1), Check.row(p.ofVillage(1, 5), p.ofVillage(1, 6)),
                Check.row(coins[k], debts[k]));
        }
    }

    private static void edictFromTheNextSpring() {
        for (int season = 0; season < 4; season++) {
            Publicanry p = new Publicanry();
            if (season > 0) {
                p.pass(season);
            }
            p.edict(2, 7, 5);
            for (int then = season; then < 4; then++) {
                Check.isText("no law in season " + then, Check.row(p.law(2, 0), p.law(2, 1), p.law(2, 2), p.land(14)), "2 0 7 0");
                p.pass(1);
            }
            Check.isText("law in spring", Check.row(p.law(2, 0), p.law(2, 1), p.law(2, 2), p.land(14)), "7 5 -1 1");
        }
        Publicanry q = new Publicanry();
        q.edict(1, 60, 255);
        q.edict(1, 59, 1);
        q.edict(1, 58, 0);
        q.pass(4);
        Check.isText("of several the latest one", Check.row(q.law(1, 0), q.law(1, 1), q.land(14)), "58 0 1");
    }

    private static void numberOfTheLaw() {
        Publicanry p = new Publicanry();
        p.pass(4);
        Check.is("a spring without any edict", p.land(14), 0);
        for (int duty = 0; duty < 3; duty++) {
            Check.is("of each edict till spring", p.edict(duty, 1, 0), 1);
        }
        p.pass(4);
        Check.is("1 more with three edicts", p.land(14), 1);
        Check.is("an edict of what is law", p.edict(0, 1, 0), 2);
        p.pass(4);
        Check.isText("is 1 more too", Check.row(p.land(14), p.law(0, 0)), "2 1");
    }

    private static void edictOfNothing() {
        Publicanry p = new Publicanry();
        p.village(10, 600, 100, 9);
        for (int duty = 0; duty < 3; duty++) {
            p.edict(duty, 0, 0);
            Check.is("a rate of 0 is told", p.law(duty, 2), 0);
        }
        p.pass(5);
        for (int duty = 0; duty < 3; duty++) {
            Check.isText("a rate of 0 is law", Check.row(p.law(duty, 0), p.law(duty, 2), p.due(0, duty, true)), "0 -1 0");
            Check.is("the stone tells another one", p.due(0, duty, false) > 0, true);
        }
    }

    private static void exemptOfEach() {
        for (int one = 0; one < 8; one++) {
            Publicanry p = new Publicanry();
            p.edict(2, 2, 1 << one);
            p.pass(4);
            for (int k = 0; k < 8; k++) {
                p.village(10, 0, 0, 1);
                int want = k == one ? 0 : 20;
                Check.isText("due of " + k, Check.row(p.due(k, 2, false), p.due(k, 2, true)), Check.row(want, want));
            }
        }
    }

    private static void stoneAsTheLawIs() {
        Publicanry p = new Publicanry();
        p.village(10, 0, 0, 1);
        p.edict(2, 3, 0);
        p.village(10, 0, 0, 1);
        Check.isText("an edict is on no stone", Check.row(p.due(1, 2, false), p.ofVillage(1, 12), p.land(15)), "20 0 0");
        p.pass(4);
        p.village(10, 0, 0, 1);
        Check.isText("stones", Check.row(p.ofVillage(0, 12), p.ofVillage(1, 12), p.ofVillage(2, 12), p.land(15)), "0 0 1 2");
        Check.isText("due by stones", Check.row(p.due(0, 2, false), p.due(1, 2, false), p.due(2, 2, false)), "20 20 30");
        Check.is("cut", p.cut(1), 0);
        Check.isText("one old stone", Check.row(p.land(15), p.due(1, 2, false)), "1 30");
    }

    private static void dueAheadOfTheSummer() {
        Publicanry p = new Publicanry();
        p.village(10, 600, 0, 9);
        long[] want = {0, 63, 63, 63, 0, 72};
        for (int season = 0; season < want.length; season++) {
            Check.is("the tenth in season " + season, p.due(0, 0, true), want[season]);
            Check.is("by the stone too", p.due(0, 0, false), want[season]);
            p.pass(1);
        }
    }

    private static void dueIsRoundedDown() {
        int[] fields = {9, 10, 19, 20};
        int[] yields = {9, 10, 19, 21};
        int[] tenths = {0, 1, 1, 2};
        for (int k = 0; k < fields.length; k++) {
            Publicanry p = new Publicanry();
            p.village(1, fields[k], fields[k], 9);
            Check.is("pasture of " + fields[k], p.due(0, 1, true), fields[k] / 10);
            p.pass(1);
            Check.isText("yield and tenth", Check.row(p.ofVillage(0, 9), p.due(0, 0, false)), Check.row(yields[k], tenths[k]));
        }
    }

    private static void dueAtMost() {
        Publicanry p = new Publicanry();
        p.edict(0, 300, 0);
        p.edict(1, 60, 0);
        p.edict(2, 9, 0);
        p.pass(4);
        p.village(90, 600, 600, 9);
        p.pass(1);
        Check.isText("the most", Check.row(p.due(0, 0, false), p.due(0, 1, false), p.due(0, 2, false)), "216 360 810");
    }
}
