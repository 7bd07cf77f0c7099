/** Sentences of section 5 that name an edge: bids, awards, rings, what is pledged. */
final class EdgesOfLotsTest {
    private EdgesOfLotsTest() {
    }

    static void run() {
        landIsAFourthOfTheBid();
        landThatIsPledged();
        theLatestBid();
        minimumOrMore();
        landEnoughStill();
        bannedDoesNotCount();
        theHighestOne();
        theSecondHighest();
        theRingAsItIsAwarded();
        aTenthOfWhatIsLess();
        toEachWhoseBidCounts();
        theRingAheadOfTheInstalment();
        noSecondOne();
        pledgedTillItIsOver();
        nothingIsPledgedForThree();
    }

    /** A village, and companies with 396 coins, this land, and these rings. */
    private static Publicanry companies(int land, int... rings) {
        Publicanry p = new Publicanry();
        p.village(10, 600, 100, 9);
        p.village(10, 600, 100, 9);
        for (int k = 0; k < rings.length; k++) {
            p.company(land, rings[k]);
            p.join(k, 99);
        }
        return p;
    }

    /** A lot of one village with these bids (0 for none), awarded. */
    private static int awarded(Publicanry p, int minimum, int... bids) {
        int lot = p.lot(1, 1, 1, minimum);
        for (int k = 0; k < bids.length; k++) {
            if (bids[k] > 0) {
                p.bid(k, lot, bids[k]);
            }
        }
        int would = p.wouldWin(lot);
        int winner = p.award(lot);
        Check.is("who would have it has it", would, winner);
        return lot;
    }

    private static String chests(Publicanry p) {
        StringBuilder chests = new StringBuilder();
        for (int k = 0; k < p.land(4); k++) {
            chests.append(k == 0 ? "" : " ").append(p.ofCompany(k, 2));
        }
        return chests.toString();
    }

    private static void landIsAFourthOfTheBid() {
        for (int land : new int[] {0, 1, 2, 99, 2000}) {
            Publicanry p = companies(land, 0);
            p.lot(0, 1, 1, 0);
            Check.is("the greatest bid for land of " + land, p.bid(0, 0, 4 * land + 3), 4 * land + 3);
            Check.isRefused("one more", p, () -> p.bid(0, 0, 4 * land + 4));
            Check.is("the bid stays", p.ofLot(0, 5), 4 * land + 3);
        }
    }

    private static void landThatIsPledged() {
        Publicanry p = companies(100, 0);
        awarded(p, 0, 43);
        Check.is("pledged", p.ofCompany(0, 1), 10);
        p.lot(0, 1, 1, 0);
        Check.isRefused("land of 90 for 364", p, () -> p.bid(0, 1, 364));
        Check.is("land of 90 for 363", p.bid(0, 1, 363), 363);
        p.pass(2);
        Check.is("it is over", p.ofLot(0, 4), 2);
        Check.is("land of 100 for 403", p.bid(0, 1, 403), 403);
        Check.isRefused("land of 100 for 404", p, () -> p.bid(0, 1, 404));
    }

    private static void theLatestBid() {
        Publicanry p = companies(1000, 0, 0);
        p.lot(0, 1, 1, 0);
        Check.is("no bid", p.ofLot(0, 5), 0);
        Check.is("the least bid", p.bid(0, 0, 1), 1);
        Check.is("that of another one", p.bid(1, 0, 2), 2);
        Check.is("the same", p.bid(1, 0, 2), 2);
        Check.is("a lower one", p.bid(1, 0, 1), 1);
        Check.is("of two that are alike the first", p.wouldWin(0), 0);
    }

    private static void minimumOrMore() {
        for (int minimum : new int[] {2, 30, 5000}) {
            Publicanry p = companies(2000, 0);
            int failed = awarded(p, minimum, minimum - 1);
            Check.isText("less than the minimum", Check.row(p.ofLot(failed, 4), p.ofLot(failed, 6), p.ofLot(failed, 7)), "3 -1 0");
            int lot = awarded(p, minimum, minimum);
            Check.isText("the minimum", Check.row(p.ofLot(lot, 6), p.ofLot(lot, 7)), Check.row(0, minimum));
        }
        Publicanry q = companies(2000, 0);
        Check.is("with a minimum of 0 no bid is none", q.ofLot(awarded(q, 0, 0), 4), 3);
        Check.is("with a minimum of 0 a bid of 1", q.ofLot(awarded(q, 0, 1), 7), 1);
        Publicanry r = companies(2000, 0);
        Check.is("with a minimum of 1 a bid of 1", r.ofLot(awarded(r, 1, 1), 7), 1);
    }

    private static void landEnoughStill() {
        for (int other : new int[] {3, 4, 7, 8}) {
            Publicanry p = companies(100, 0, 0);
            p.lot(0, 1, 1, 0);
            p.bid(0, 0, 390);
            p.bid(1, 0, 1);
            p.lot(2, 1, 1, 0);
            p.bid(0, 1, other);
            p.award(1);
            p.lot(1, 1, 1, 0);
            p.bid(0, 2, 8);
            p.award(2);
            int pledged = other / 4 + 2;
            Check.is("pledged", p.ofCompany(0, 1), pledged);
            Check.is("97 of " + (100 - pledged), p.wouldWin(0), pledged <= 3 ? 0 : 1);
            Check.is("awarded", p.award(0), pledged <= 3 ? 0 : 1);
        }
    }

    private static void bannedDoesNotCount() {
        Publicanry p = companies(2000, 0, 1, 1);
        p.lot(0, 1, 1, 5);
        p.bid(0, 0, 100);
        p.bid(1, 0, 20);
        p.bid(2, 0, 10);
        awarded(p, 0, 397);
        Check.is("banned", p.ofCompany(0, 5), 1);
        Check.is("the next one would have it", p.wouldWin(0), 1);
        Check.is("and has it", p.award(0), 1);
        Check.isText("the second highest is of its ring", Check.row(p.ofLot(0, 7), p.ofLot(0, 5)), "5 100");
        Check.isText("chests", chests(p), Check.row(0, 396 - 1 - 5, 396 + 1));
        p.lot(2, 1, 1, 0);
        Check.isRefused("banned for good", p, () -> p.bid(0, 2, 1));
        p.pass(20);
        p.pass(20);
        Check.isRefused("ten years on", p, () -> p.bid(0, 2, 1));
        Check.is("all alone", p.wouldWin(2), -1);
    }

    private static void theHighestOne() {
        Publicanry p = companies(1000, 0, 0, 0);
        Check.is("of three that are alike", p.ofLot(awarded(p, 0, 9, 9, 9), 6), 0);
        Publicanry q = companies(1000, 0, 0, 0);
        Check.is("one more", q.ofLot(awarded(q, 0, 9, 10, 9), 6), 1);
        Publicanry r = companies(1000, 0, 0, 0);
        Check.is("the last one", r.ofLot(awarded(r, 0, 9, 10, 11), 6), 2);
        Publicanry s = companies(1000, 0, 0, 0);
        Check.is("without the first one", s.ofLot(awarded(s, 0, 0, 10, 10), 6), 1);
    }

    private static int priceOf(int[] rings, int minimum, int... bids) {
        Publicanry p = companies(1000, rings);
        return p.ofLot(awarded(p, minimum, bids), 7);
    }

    private static void theSecondHighest() {
        Check.is("of its ring", priceOf(new int[] {1, 1, 0}, 5, 20, 15, 10), 5);
        Check.is("of another ring", priceOf(new int[] {1, 1, 2}, 5, 20, 10, 15), 20);
        Check.is("of no ring", priceOf(new int[] {1, 1, 0}, 5, 20, 10, 15), 20);
        Check.is("none is in a ring", priceOf(new int[] {0, 0, 0}, 5, 20, 15, 10), 20);
        Check.is("of two that are alike the smallest is of its ring", priceOf(new int[] {1, 0, 1}, 5, 10, 10, 20), 5);
        Check.is("of two that are alike the smallest is of none", priceOf(new int[] {0, 1, 1}, 5, 10, 10, 20), 20);
        Check.is("as high as the winner, of its ring", priceOf(new int[] {3, 3, 0}, 5, 20, 20, 20), 5);
        Check.is("as high as the winner, of none", priceOf(new int[] {3, 0, 3}, 5, 20, 20, 20), 20);
        Check.is("one less than the minimum is none", priceOf(new int[] {1, 1, 0}, 5, 20, 4, 0), 20);
        Check.is("just the minimum is one", priceOf(new int[] {1, 1, 0}, 5, 20, 5, 0), 5);
        Check.is("a higher one that does not count", priceOf(new int[] {1, 0, 1}, 0, 20, 0, 15), 0);
    }

    private static void theRingAsItIsAwarded() {
        Publicanry p = companies(1000, 1, 2);
        p.lot(0, 1, 1, 5);
        p.bid(0, 0, 20);
        p.bid(1, 0, 20);
        p.ring(1, 1);
        p.award(0);
        Check.is("in the same ring by now", p.ofLot(0, 7), 5);
        Publicanry q = companies(1000, 1, 1);
        q.lot(0, 1, 1, 5);
        q.bid(0, 0, 20);
        q.bid(1, 0, 20);
        q.ring(0, 0);
        q.ring(1, 0);
        q.award(0);
        Check.is("in none by now", q.ofLot(0, 7), 20);
    }

    private static void aTenthOfWhatIsLess() {
        int[] bids = {5, 14, 15, 24, 25, 105};
        int[] tenths = {0, 0, 1, 1, 2, 10};
        for (int k = 0; k < bids.length; k++) {
            Publicanry p = companies(1000, 1, 1);
            int lot = awarded(p, 5, bids[k], 5);
            Check.isText("a tenth of " + bids[k] + " less 5", Check.row(p.ofLot(lot, 6), p.ofCompany(0, 2), p.ofCompany(1, 2)),
                Check.row(0, 396 - 5 - tenths[k], 396 + tenths[k]));
        }
    }

    private static void toEachWhoseBidCounts() {
        Publicanry p = companies(1000, 2, 2, 2, 2);
        awarded(p, 30, 30, 29, 130, 31);
        Check.isText("30 and 31 count", chests(p), Check.row(406, 396, 396 - 20 - 30, 406));
        Publicanry q = companies(1000, 2, 1, 2, 2);
        awarded(q, 30, 0, 100, 130, 110);
        Check.isText("without a bid, of another ring", chests(q), Check.row(396, 396, 396 - 10 - 30, 406));
        Publicanry r = companies(1000, 1, 1, 1, 1);
        Made.leave(r, 3, 15);
        awarded(r, 0, 50, 50, 50, 100);
        Check.isText("10, then 5, then nothing", chests(r), "406 401 396 0");
        Check.is("a price of 0 is no default", r.ofCompany(3, 5), 0);
    }

    /** 25 are less by 10 for the ring, so that a price of 20 is a default; 30 are just enough. */
    private static void theRingAheadOfTheInstalment() {
        int[] coins = {25, 29, 30};
        int[] banned = {1, 1, 0};
        for (int k = 0; k < coins.length; k++) {
            Publicanry p = companies(1000, 1, 1);
            Made.leave(p, 0, coins[k]);
            awarded(p, 20, 120, 20);
            Check.isText("with " + coins[k], Check.row(p.ofCompany(1, 2), p.ofCompany(0, 12), p.ofCompany(0, 5)),
                Check.row(406, coins[k] - 10, banned[k]));
        }
    }

    private static void noSecondOne() {
        Check.is("alone in its ring", priceOf(new int[] {1, 1, 1}, 5, 20, 0, 0), 20);
        Check.is("alone with the minimum", priceOf(new int[] {1, 1, 1}, 5, 0, 5, 0), 5);
    }

    private static void pledgedTillItIsOver() {
        int[] prices = {4, 7, 8, 103};
        for (int price : prices) {
            Publicanry p = companies(1000, 0);
            int lot = Made.lease(p, 0, Made.TENTH, 1, 2, price);
            Check.is("pledged for " + price, p.ofCompany(0, 1), price / 4);
            p.pass(5);
            Check.is("in the last summer", p.ofCompany(0, 1), price / 4);
            p.pass(1);
            Check.isText("behind the last autumn", Check.row(p.ofCompany(0, 1), p.ofLot(lot, 4)), "0 2");
            Check.is("land is what it was", p.ofCompany(0, 0), 1000);
        }
    }

    private static void nothingIsPledgedForThree() {
        Publicanry p = companies(0, 0);
        Made.lease(p, 0, Made.TENTH, 1, 2, 3);
        Check.isText("without any land", Check.row(p.ofCompany(0, 0), p.ofCompany(0, 1), p.ofCompany(0, 10)), "0 0 1");
        Publicanry q = companies(1, 3, 3);
        q.lot(0, 1, 1, 3);
        q.bid(0, 0, 7);
        q.bid(1, 0, 7);
        q.award(0);
        Check.isText("by the price, not the bid", Check.row(q.ofCompany(0, 1), q.ofLot(0, 7), q.ofLot(0, 5)), "0 3 7");
    }
}
