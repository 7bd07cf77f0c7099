/** Promises 20 to 23: gifts, quarters, remissions, recalls. */
final class GovernorTest {
    private GovernorTest() {
    }

    static void run() {
        gift();
        quarter();
        remit();
        remitBad();
        remitByGifts();
        remitWrong();
        recall();
    }

    private static void gift() {
        Publicanry p = Made.rich();
        Check.is("a gift", p.gift(0, 60), 60);
        Check.is("a further one", p.gift(0, 6), 66);
        Check.isText("chests", Check.row(p.ofCompany(0, 2), p.land(7), p.ofCompany(0, 9)), "330 66 66");
        Check.isRefused("more than there is", p, () -> p.gift(0, 331));
        Check.isWrong("amount 0", p, () -> p.gift(0, 0));
        Check.isWrong("amount 501", p, () -> p.gift(0, 501));
        Check.isRefused("amount 500", p, () -> p.gift(0, 500));
        Check.noSuch("company 1", p, () -> p.gift(1, 0));
        Check.noSuch("company -1", p, () -> p.gift(-1, 1));
        Check.is("1", p.gift(0, 1), 67);
        Check.is("all there is", p.gift(0, 329), 396);
    }

    private static void quarter() {
        Publicanry p = Made.collected(Made.HEARTH, 3);
        p.sue(0, 2);
        Check.is("coins of a suit", p.ofVillage(0, 5), 14);
        Check.is("each house pays 1", p.quarter(0), 10);
        Check.isText("chests, unrest", Check.row(p.ofVillage(0, 5), p.land(7), p.ofVillage(0, 7)), "4 10 0");
        Check.is("what there is", p.quarter(0), 4);
        Check.isText("3 more once", Check.row(p.ofVillage(0, 5), p.land(7), p.ofVillage(0, 7)), "0 14 3");
        Check.is("nothing is there", p.quarter(0), 0);
        Check.is("3 more", p.ofVillage(0, 7), 6);
        Check.noSuch("village 1", p, () -> p.quarter(1));
        Check.noSuch("village -1", p, () -> p.quarter(-1));
    }

    /** In the year 0 the first village is good; those told in winter bring nothing. */
    private static Publicanry winter(int more) {
        Publicanry p = Made.rich();
        p.pass(3);
        for (int k = 0; k < more; k++) {
            p.village(10, 600, 0, 9);
        }
        return p;
    }

    private static void remit() {
        Publicanry p = winter(2);
        Made.lease(p, 0, Made.TENTH, 7, 3, 101);
        Check.is("33 * 2 / 3", p.remit(0), 22);
        Check.isText("is not used yet", Check.row(p.ofLot(0, 9), p.land(9)), "22 0");
        Check.isRefused("once a year", p, () -> p.remit(0));
        p.pass(1);
        Check.isText("used in spring", Check.row(p.ofLot(0, 9), p.ofCompany(0, 12)), Check.row(0, 35 + 11));
        Publicanry q = winter(1);
        Made.lease(q, 0, Made.TENTH, 1, 3, 90);
        Made.lease(q, 0, Made.TENTH, 2, 1, 90);
        Check.is("of a good village", q.remit(0), 0);
        Check.isRefused("also of nothing once a year", q, () -> q.remit(0));
        Check.is("of a bad one", q.remit(1), 90);
        q.pass(4);
        Check.isText("what no instalment used", Check.row(q.ofLot(1, 9), q.ofLot(1, 4)), "90 2");
        Check.is("in the next year", q.remit(0), 0);
    }

    private static void remitBad() {
        Publicanry p = Made.rich();
        p.village(10, 600, 0, 9);
        p.war(1);
        Made.lease(p, 0, Made.TENTH, 1, 5, 100);
        Made.lease(p, 0, Made.TENTH, 2, 5, 100);
        p.pass(3);
        Check.isText("315 is just not bad", Check.row(p.ofVillage(0, 9), p.remit(0), p.remit(1)), "315 0 0");
        p.pass(5);
        p.war(1);
        p.pass(3);
        Check.isText("180 is", Check.row(p.ofVillage(0, 9), p.remit(0), p.ofVillage(1, 9), p.remit(1)), "180 20 360 0");
        Publicanry q = new Publicanry();
        q.village(10, 50, 0, 9);
        q.company(2000, 0);
        q.join(0, 99);
        Made.lease(q, 0, Made.TENTH, 1, 1, 10);
        q.pass(1);
        Check.is("52 by fields of 50", q.ofVillage(0, 9), 52);
        q.clear(0, 50);
        Made.lease(q, 0, Made.HEARTH, 1, 3, 30);
        q.pass(2);
        Check.is("by the register", q.remit(1), 0);
        q.survey(0);
        Check.is("the register is 100 from now on", q.ofVillage(0, 8), 100);
        Made.lease(q, 0, Made.PASTURE, 1, 3, 30);
        Check.is("52 is not below 52", q.remit(2), 0);
        q.clear(0, 2);
        q.survey(0);
        Made.lease(q, 0, Made.TENTH, 1, 3, 30);
        Check.is("52 is below 53", q.remit(3), 10);
        Publicanry r = Made.rich();
        r.village(10, 119, 0, 9);
        r.war(2);
        r.pass(3);
        r.clear(1, 1);
        r.survey(1);
        Made.lease(r, 0, Made.TENTH, 2, 1, 30);
        Check.isText("62 is below 63", Check.row(r.ofVillage(1, 9), r.remit(0)), "62 30");
    }

    private static void remitByGifts() {
        Publicanry p = winter(1);
        p.gift(0, 45);
        Made.lease(p, 0, Made.TENTH, 2, 3, 99);
        Made.lease(p, 0, Made.HEARTH, 1, 1, 4);
        Check.is("33 and half of it", p.remit(0), 49);
        Check.isText("20 are spent", Check.row(p.ofCompany(0, 9), p.land(9), p.land(7)), "25 1 45");
        Check.is("also if it is 0", p.remit(1), 0);
        Check.isText("20 more", Check.row(p.ofCompany(0, 9), p.land(9)), "5 2");
        Publicanry q = winter(1);
        q.gift(0, 19);
        Made.lease(q, 0, Made.TENTH, 2, 3, 99);
        Check.is("19 are too few", q.remit(0), 33);
        Check.isText("and not spent", Check.row(q.ofCompany(0, 9), q.land(9)), "19 0");
        Publicanry r = winter(1);
        r.gift(0, 20);
        Made.lease(r, 0, Made.TENTH, 2, 3, 99);
        Check.is("20 are enough", r.remit(0), 49);
        Publicanry s = winter(1);
        s.company(100, 0);
        s.join(1, 99);
        s.gift(1, 100);
        Made.lease(s, 0, Made.TENTH, 2, 3, 99);
        Check.is("gifts of another company", s.remit(0), 33);
    }

    private static void remitWrong() {
        Publicanry p = Made.rich();
        p.lot(1, 1, 1, 0);
        Made.lease(p, 0, Made.TENTH, 1, 5, 100);
        Check.isRefused("in spring", p, () -> p.remit(1));
        p.pass(1);
        Check.isRefused("in summer", p, () -> p.remit(1));
        p.pass(1);
        Check.isRefused("in autumn", p, () -> p.remit(1));
        p.pass(1);
        Check.isRefused("of a lot that is offered", p, () -> p.remit(0));
        p.award(0);
        Check.isRefused("of a lot that failed", p, () -> p.remit(0));
        Check.noSuch("lot 2", p, () -> p.remit(2));
        Check.noSuch("lot -1", p, () -> p.remit(-1));
        p.pass(16);
        Check.isRefused("of a lot that is over", p, () -> p.remit(1));
    }

    private static void recall() {
        Publicanry p = winter(1);
        p.gift(0, 45);
        Made.lease(p, 0, Made.TENTH, 2, 3, 99);
        Made.lease(p, 0, Made.HEARTH, 1, 1, 4);
        p.remit(0);
        Check.is("with evidence of 1", p.recall(), 0);
        Check.isText("to the world", Check.row(p.land(7), p.land(6), p.land(8), p.land(9), p.ofCompany(0, 9)),
            Check.row(0, 37, -1160 - 396 + 45, 0, 0));
        Publicanry q = winter(1);
        q.gift(0, 45);
        Made.lease(q, 0, Made.TENTH, 2, 3, 99);
        Made.lease(q, 0, Made.HEARTH, 1, 1, 4);
        q.remit(0);
        q.remit(1);
        Check.is("with evidence of 2", q.recall(), 45);
        Check.isText("to the treasury", Check.row(q.land(7), q.land(6), q.land(8), q.land(9), q.ofCompany(0, 9)),
            Check.row(0, 37 + 45, -1160 - 396, 0, 0));
        Check.is("again", q.recall(), 0);
    }
}
