/** Promises 14, 17 and 23 in section 6: instalments, credit, defaults. */
final class TreasuryTest {
    private TreasuryTest() {
    }

    static void run() {
        instalments();
        deliver();
        creditIsUsed();
        remissionFirst();
        defaultAtOnce();
        defaultInSpring();
        defaultSellsAPledge();
    }

    private static void instalments() {
        Publicanry p = Made.rich();
        Made.lease(p, 0, Made.TENTH, 1, 5, 104);
        int[] paid = {24, 44, 64, 84, 104, 104};
        for (int year = 0; year < 6; year++) {
            Check.isText("in the year " + year, Check.row(p.ofCompany(0, 12), p.land(6), p.ofLot(0, 11)),
                Check.row(paid[year], paid[year], Math.min(year + 1, 5)));
            p.pass(4);
        }
        Publicanry q = Made.rich();
        q.pass(3);
        Made.lease(q, 0, Made.TENTH, 1, 2, 41);
        Check.is("leased in winter", q.land(6), 21);
        q.pass(1);
        Check.is("the second one falls due in the next spring", q.land(6), 41);
        q.pass(8);
        Check.is("no further one", q.land(6), 41);
    }

    private static void deliver() {
        Publicanry p = Made.rich();
        Check.is("3 for each as credit", p.deliver(0, 98), 294);
        Check.isText("2 for each are paid to the world", Check.row(p.ofCompany(0, 2), p.land(8)), "200 -200");
        Check.isRefused("101 for 200", p, () -> p.deliver(0, 101));
        Check.isWrong("grain 0", p, () -> p.deliver(0, 0));
        Check.isWrong("grain 501", p, () -> p.deliver(0, 501));
        Check.isRefused("grain 500", p, () -> p.deliver(0, 500));
        Check.noSuch("company 1", p, () -> p.deliver(1, 0));
        Check.noSuch("company -1", p, () -> p.deliver(-1, 1));
        Check.is("100 for 200", p.deliver(0, 100), 594);
        Check.is("nothing is left", p.ofCompany(0, 2), 0);
        p.join(0, 1);
        Check.is("1 for 2", p.deliver(0, 1), 597);
    }

    private static void creditIsUsed() {
        Publicanry p = Made.rich();
        p.deliver(0, 10);
        Made.lease(p, 0, Made.TENTH, 1, 2, 41);
        Check.isText("all of the first by credit", Check.row(p.ofCompany(0, 8), p.ofCompany(0, 2), p.ofCompany(0, 12), p.land(6)),
            "9 376 0 0");
        p.pass(4);
        Check.isText("9 of the second by credit", Check.row(p.ofCompany(0, 8), p.ofCompany(0, 12), p.land(6)), "0 11 11");
        Check.isReal("gain by coins alone", p.gain(0), 80.0 / 11.0);
    }

    private static void remissionFirst() {
        Publicanry q = Made.rich();
        q.village(10, 600, 0, 9);
        q.pass(3);
        q.village(10, 600, 0, 9);
        Made.lease(q, 0, Made.TENTH, 6, 2, 80);
        q.deliver(0, 5);
        Check.isText("the first one by credit too", Check.row(q.ofCompany(0, 12), q.ofCompany(0, 8)), "40 15");
        Check.is("half of the set is bad", q.remit(0), 20);
        Check.is("is not used yet", q.ofLot(0, 9), 20);
        q.pass(1);
        Check.isText("20 remitted, 15 by credit, 5 in coins", Check.row(q.ofLot(0, 9), q.ofCompany(0, 8), q.ofCompany(0, 12)),
            "0 0 45");
        Publicanry r = Made.rich();
        r.pass(3);
        r.village(10, 600, 0, 9);
        Made.lease(r, 0, Made.TENTH, 3, 2, 80);
        r.remit(0);
        r.deliver(0, 50);
        r.pass(1);
        Check.isText("20 remitted, 20 by credit", Check.row(r.ofLot(0, 9), r.ofCompany(0, 8), r.ofCompany(0, 12)),
            "0 130 40");
    }

    private static void defaultAtOnce() {
        Publicanry p = new Publicanry();
        p.village(10, 600, 100, 9);
        p.company(100, 0);
        p.join(0, 3);
        p.lot(2, 1, 5, 0);
        p.bid(0, 0, 403);
        Check.is("the company that wins", p.award(0), 0);
        Check.isText("12 are paid, land of 71 is sold", Check.row(p.ofCompany(0, 2), p.ofCompany(0, 0), p.ofCompany(0, 12)),
            "0 29 12");
        Check.isText("banned, over", Check.row(p.ofCompany(0, 5), p.ofLot(0, 4), p.ofLot(0, 8), p.ofCompany(0, 1),
            p.ofCompany(0, 10)), "1 2 0 0 0");
        Check.isText("treasury and world", Check.row(p.land(6), p.land(8)), Check.row(83, -12 - 71));
        Check.isText("it had the lot", Check.row(p.ofLot(0, 6), p.ofLot(0, 7), p.ofLot(0, 11)), "0 403 1");
    }

    private static void defaultInSpring() {
        Publicanry p = Made.rich();
        p.village(1, 0, 0, 1);
        Made.lease(p, 0, Made.HEARTH, 2, 5, 5);
        Made.lease(p, 0, Made.TENTH, 2, 2, 600);
        Made.lease(p, 0, Made.PASTURE, 2, 5, 10);
        p.pass(3);
        Check.is("its chest", p.ofCompany(0, 2), 396 - 1 - 300 - 2);
        p.pass(1);
        Check.isText("lot by lot: 1, then what there is", Check.row(p.ofCompany(0, 2), p.ofCompany(0, 12)), "0 396");
        Check.isText("208 are lacking, 150 pledged", Check.row(p.ofCompany(0, 0), p.land(6)), Check.row(1850, 396 + 150));
        Check.isText("all of its lots are over", Check.row(p.ofLot(0, 4), p.ofLot(1, 4), p.ofLot(2, 4)), "2 2 2");
        Check.isText("what fell due", Check.row(p.ofLot(0, 11), p.ofLot(1, 11), p.ofLot(2, 11)), "2 2 1");
        Check.isText("banned", Check.row(p.ofCompany(0, 5), p.ofCompany(0, 1), p.ofCompany(0, 10)), "1 0 0");
        Check.is("sound", p.isSound(), true);
        p.pass(4);
        Check.is("nothing more falls due", p.land(6), 546);
    }

    private static void defaultSellsAPledge() {
        Publicanry p = Made.rich();
        p.company(50, 0);
        p.join(0, 1);
        Made.lease(p, 1, Made.TENTH, 1, 1, 200);
        Check.isText("at most what is pledged", Check.row(p.ofCompany(1, 0), p.land(6), p.land(8)),
            Check.row(0, 50, -400 - 50));
        Check.isText("another company keeps on", Check.row(p.ofCompany(0, 5), p.ofCompany(1, 5)), "0 1");
        Check.is("sound", p.isSound(), true);
    }
}
