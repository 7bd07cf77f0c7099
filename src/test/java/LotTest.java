/** Promises 12 to 14, 33 and 42: lots, bids, awards, rings. */
final class LotTest {
    private LotTest() {
    }

    static void run() {
        lot();
        lotInCommon();
        bid();
        bidWrong();
        awardHighest();
        awardFails();
        bidsThatCountNoMore();
        ringTakesAll();
        ringIsBroken();
        ringPaysWhatItHas();
        ofLot();
        wouldWin();
    }

    private static void lot() {
        Publicanry p = Made.rich();
        Check.is("lot 0", p.lot(0, 1, 1, 0), 0);
        Check.is("lot 1", p.lot(1, 1, 5, 5000), 1);
        Check.isWrong("no village", p, () -> p.lot(2, 0, 1, 0));
        Check.isWrong("villages -1", p, () -> p.lot(2, -1, 1, 0));
        Check.isWrong("a village that is not there", p, () -> p.lot(2, 3, 1, 0));
        Check.isWrong("villages without end", p, () -> p.lot(2, Integer.MAX_VALUE, 1, 0));
        Check.isWrong("term 0", p, () -> p.lot(2, 1, 0, 0));
        Check.isWrong("term 6", p, () -> p.lot(2, 1, 6, 0));
        Check.isWrong("minimum -1", p, () -> p.lot(2, 1, 1, -1));
        Check.isWrong("minimum 5001", p, () -> p.lot(2, 1, 1, 5001));
        Check.noSuch("duty 3", p, () -> p.lot(3, 0, 1, 0));
        Check.noSuch("duty -1", p, () -> p.lot(-1, 1, 1, 0));
        for (int k = 1; k < 7; k++) {
            p.village(1, 1, 1, 1);
            Check.is("one more lot", p.lot(2, 1 << k, 1, 0), k + 1);
        }
        Check.isRefused("a ninth lot", p, () -> p.lot(2, 1, 1, 0));
        Check.isWrong("a ninth lot of none", p, () -> p.lot(2, 0, 1, 0));
        Check.is("eight lots", p.land(5), 8);
    }

    private static void lotInCommon() {
        Publicanry p = Made.rich();
        p.village(1, 1, 1, 1);
        p.village(1, 1, 1, 1);
        p.lot(0, 3, 1, 0);
        Check.isRefused("a village in common with one offered", p, () -> p.lot(0, 6, 1, 0));
        Check.is("of another duty", p.lot(1, 6, 1, 0), 1);
        Check.is("of another village", p.lot(0, 4, 1, 0), 2);
        p.bid(0, 0, 40);
        p.award(0);
        Check.isRefused("in common with one leased", p, () -> p.lot(0, 1, 1, 0));
        p.award(2);
        Check.is("in common with one that failed", p.lot(0, 4, 1, 0), 3);
        p.pass(2);
        Check.is("in common with one that is over", p.lot(0, 3, 1, 0), 4);
    }

    private static void bid() {
        Publicanry p = Made.rich();
        p.company(100, 0);
        p.lot(0, 1, 1, 500);
        Check.is("a bid", p.bid(1, 0, 403), 403);
        Check.isRefused("land is too little", p, () -> p.bid(1, 0, 404));
        Check.is("a lower one", p.bid(0, 0, 50), 403);
        Check.is("a higher one", p.bid(0, 0, 8003), 8003);
        Check.isRefused("land of 2000 is too little", p, () -> p.bid(0, 0, 8004));
        Check.is("the latest bid counts", p.bid(0, 0, 60), 403);
        Check.is("also that of the highest", p.bid(1, 0, 1), 60);
        Check.is("is told", p.ofLot(0, 5), 60);
        p.award(0);
        Check.isRefused("a bid for one that failed", p, () -> p.bid(0, 0, 600));
        p.join(0, 99);
        Made.lease(p, 0, Made.HEARTH, 1, 1, 403);
        Check.isRefused("a bid for one that is leased", p, () -> p.bid(1, 1, 4));
        p.lot(0, 1, 1, 0);
        Check.isRefused("with land that is pledged", p, () -> p.bid(0, 2, 7604));
        Check.is("with land that is not pledged", p.bid(0, 2, 7603), 7603);
    }

    private static void bidWrong() {
        Publicanry p = Made.rich();
        p.lot(0, 1, 1, 500);
        Check.isWrong("amount 0", p, () -> p.bid(0, 0, 0));
        Check.isWrong("amount -1", p, () -> p.bid(0, 0, -1));
        Check.isWrong("amount 9001", p, () -> p.bid(0, 0, 9001));
        Check.isRefused("amount 9000, land 2000", p, () -> p.bid(0, 0, 9000));
        Check.noSuch("company 1", p, () -> p.bid(1, 0, 0));
        Check.noSuch("company -1", p, () -> p.bid(-1, 0, 1));
        Check.noSuch("lot 1", p, () -> p.bid(0, 1, 0));
        Check.noSuch("lot -1", p, () -> p.bid(0, -1, 1));
    }

    private static Publicanry three(int ring0, int ring1, int ring2) {
        Publicanry p = new Publicanry();
        p.village(10, 600, 100, 9);
        int[] rings = {ring0, ring1, ring2};
        for (int k = 0; k < 3; k++) {
            p.company(1000, rings[k]);
            p.join(k, 99);
        }
        return p;
    }

    private static void bids(Publicanry p, int lot, int... amounts) {
        for (int k = 0; k < amounts.length; k++) {
            if (amounts[k] > 0) {
                p.bid(k, lot, amounts[k]);
            }
        }
    }

    private static String chests(Publicanry p) {
        return Check.row(p.ofCompany(0, 2), p.ofCompany(1, 2), p.ofCompany(2, 2));
    }

    private static void awardHighest() {
        Publicanry p = three(0, 0, 0);
        p.lot(1, 1, 3, 30);
        bids(p, 0, 100, 200, 200);
        Check.is("of several the smallest company", p.award(0), 1);
        Check.isText("leased", Check.row(p.ofLot(0, 4), p.ofLot(0, 6), p.ofLot(0, 7), p.ofLot(0, 8), p.ofLot(0, 11)),
            "1 1 200 3 1");
        Check.isText("the first instalment with the rest", chests(p), "396 328 396");
        Check.isText("to the treasury", Check.row(p.land(6), p.ofCompany(1, 12)), "68 68");
        Check.is("a fourth is pledged", p.ofCompany(1, 1), 50);
        Check.isRefused("awarded again", p, () -> p.award(0));
        Check.noSuch("award of lot 1", p, () -> p.award(1));
        Check.noSuch("award of lot -1", p, () -> p.award(-1));
    }

    private static void awardFails() {
        Publicanry p = three(0, 0, 0);
        p.lot(0, 1, 3, 30);
        p.lot(1, 1, 3, 0);
        p.lot(2, 1, 3, 30);
        bids(p, 0, 29, 10, 0);
        Check.is("below the minimum", p.award(0), -1);
        Check.isText("failed", Check.row(p.ofLot(0, 4), p.ofLot(0, 5), p.ofLot(0, 6), p.ofLot(0, 7), p.ofLot(0, 8)),
            "3 29 -1 0 0");
        Check.isRefused("awarded again", p, () -> p.award(0));
        Check.is("without a bid", p.award(1), -1);
        p.lot(1, 1, 3, 1);
        p.bid(2, 3, 1);
        Check.is("with a bid of 1", p.award(3), 2);
        bids(p, 2, 30, 0, 0);
        Check.is("just the minimum", p.award(2), 0);
    }

    private static void bidsThatCountNoMore() {
        Publicanry p = three(0, 0, 0);
        p.lot(0, 1, 1, 0);
        p.lot(1, 1, 1, 0);
        p.lot(2, 1, 1, 0);
        bids(p, 0, 390, 0, 0);
        bids(p, 1, 3620, 3000, 0);
        bids(p, 2, 50, 3000, 40);
        p.award(0);
        Check.is("land that is pledged by now does not count", p.award(1), 1);
        Check.is("that company is banned for good", p.ofCompany(1, 5), 1);
        Check.is("a bid of one that is banned does not count", p.wouldWin(2), 0);
        Check.is("the highest bid of all", p.ofLot(2, 5), 3000);
        Check.is("awarded", p.award(2), 0);
        p.pass(2);
        p.lot(0, 1, 1, 0);
        Check.isRefused("nor can it bid", p, () -> p.bid(1, 3, 4));
    }

    private static void ringTakesAll() {
        Publicanry p = three(1, 1, 1);
        p.lot(1, 1, 3, 30);
        bids(p, 0, 180, 239, 29);
        Check.is("won", p.award(0), 1);
        Check.is("the price is the minimum", p.ofLot(0, 7), 30);
        Check.isText("a tenth of 209 to each whose bid counts", chests(p), "416 366 396");
        Publicanry q = three(2, 2, 2);
        q.lot(1, 1, 3, 30);
        bids(q, 0, 31, 180, 239);
        q.award(0);
        Check.isText("to each other one", chests(q), "416 416 346");
    }

    private static void ringIsBroken() {
        Publicanry p = three(1, 2, 1);
        p.lot(1, 1, 1, 30);
        bids(p, 0, 200, 190, 180);
        p.award(0);
        Check.isText("the second highest is of another ring", Check.row(p.ofLot(0, 7), p.ofCompany(2, 2)), "200 396");
        Publicanry q = three(1, 2, 1);
        q.lot(1, 1, 1, 30);
        bids(q, 0, 200, 180, 180);
        q.award(0);
        Check.isText("of several the smallest company", Check.row(q.ofLot(0, 7), q.ofCompany(2, 2)), "200 396");
        Publicanry r = three(0, 0, 0);
        r.lot(1, 1, 1, 30);
        bids(r, 0, 200, 190, 180);
        r.award(0);
        Check.is("0 is no ring", r.ofLot(0, 7), 200);
        Publicanry s = three(1, 2, 1);
        s.lot(1, 1, 1, 30);
        bids(s, 0, 200, 29, 180);
        s.award(0);
        Check.isText("a bid that does not count", Check.row(s.ofLot(0, 7), s.ofCompany(0, 2), s.ofCompany(2, 2)),
            Check.row(30, 396 - 17 - 30, 396 + 17));
    }

    private static void ringPaysWhatItHas() {
        Publicanry p = new Publicanry();
        p.village(10, 600, 100, 9);
        for (int k = 0; k < 3; k++) {
            p.company(1000, 3);
        }
        p.join(2, 25);
        p.lot(1, 1, 1, 0);
        bids(p, 0, 700, 700, 710);
        Check.is("won with a default at once", p.award(0), 2);
        Check.isText("71 to the first, what is left to the next", chests(p), "71 29 0");
        Check.isRefused("what a ring pays, without a partner", p, () -> p.shareOut(0, 1));
        Check.isText("a price of 0 is paid", Check.row(p.ofLot(0, 7), p.ofLot(0, 4), p.ofCompany(2, 5)), "0 1 0");
    }

    private static void ofLot() {
        Publicanry p = Made.rich();
        p.lot(1, 1, 4, 30);
        long[] offered = {1, 1, 4, 30, 0, 0, -1, 0, 0, 0, 0, 0};
        for (int what = 0; what < 12; what++) {
            Check.is("of a lot that is offered, what " + what, p.ofLot(0, what), offered[what]);
        }
        p.bid(0, 0, 122);
        p.award(0);
        p.letOn(0, 0, 5);
        p.pass(4);
        long[] leased = {1, 1, 4, 30, 1, 122, 0, 122, 3, 0, 1, 2};
        for (int what = 0; what < 12; what++) {
            Check.is("of a lot that is leased, what " + what, p.ofLot(0, what), leased[what]);
        }
        p.pass(12);
        Check.isText("of one that is over", Check.row(p.ofLot(0, 4), p.ofLot(0, 6), p.ofLot(0, 7), p.ofLot(0, 8), p.ofLot(0, 10),
            p.ofLot(0, 11)), "2 0 122 0 1 4");
        Check.isWrong("what -1", p, () -> p.ofLot(0, -1));
        Check.isWrong("what 12", p, () -> p.ofLot(0, 12));
        Check.noSuch("lot 1", p, () -> p.ofLot(1, 12));
        Check.noSuch("lot -1", p, () -> p.ofLot(-1, 0));
    }

    private static void wouldWin() {
        Publicanry p = three(0, 0, 0);
        p.lot(1, 1, 1, 30);
        Check.is("none would win", p.wouldWin(0), -1);
        bids(p, 0, 29, 100, 100);
        Check.is("would win", p.wouldWin(0), 1);
        Check.is("nothing is changed", p.ofLot(0, 4), 0);
        p.award(0);
        Check.isRefused("one that is leased", p, () -> p.wouldWin(0));
        Check.noSuch("lot 1", p, () -> p.wouldWin(1));
        Check.noSuch("lot -1", p, () -> p.wouldWin(-1));
    }
}
