/**
 * The «Throws» sentences of promises 2 to 26: of each number the least and the greatest that is allowed and those
 * beyond, each state that a call refuses, and which exception comes first. That nothing is changed, Check sees.
 */
final class ThrowsTellingTest {
    private ThrowsTellingTest() {
    }

    static void run() {
        village();
        clearSurveyCut();
        war();
        edict();
        company();
        join();
        shareOut();
        ringForceBench();
        lot();
        lotInCommon();
        bid();
        bidRefused();
        award();
        letOn();
        letOnRefused();
        deliver();
        sue();
        gift();
        quarterClerks();
        remit();
        pass();
        neverThrow();
    }

    private static void village() {
        Edges.bounds("village, houses", Publicanry::new, 1, 90, (p, n) -> p.village(n, 0, 0, 1));
        Edges.bounds("village, fields", Publicanry::new, 0, 600, (p, n) -> p.village(1, n, 0, 1));
        Edges.bounds("village, herd", Publicanry::new, 0, 600, (p, n) -> p.village(1, 0, n, 1));
        Edges.bounds("village, soil", Publicanry::new, 1, 9, (p, n) -> p.village(1, 0, 0, n));
        Publicanry p = new Publicanry();
        for (int k = 0; k < 7; k++) {
            p.village(1, 0, 0, 1);
        }
        Check.isDone("the eighth village", () -> p.village(90, 600, 600, 9));
        Check.isRefused("the ninth village", p, () -> p.village(1, 0, 0, 1));
        Check.isWrong("the ninth village, houses 91", p, () -> p.village(91, 0, 0, 1));
        Check.isWrong("the ninth village, fields 601", p, () -> p.village(1, 601, 0, 1));
        Check.isWrong("the ninth village, herd 601", p, () -> p.village(1, 0, 601, 1));
        Check.isWrong("the ninth village, soil 0", p, () -> p.village(1, 0, 0, 0));
    }

    private static void clearSurveyCut() {
        Edges.index("clear village", Made::two, 2, (p, n) -> p.clear(n, 1));
        Edges.bounds("clear, more", Made::two, 1, 100, (p, n) -> p.clear(1, n));
        Publicanry p = Made.two();
        Check.noSuch("clear village 2 by 0", p, () -> p.clear(2, 0));
        Check.noSuch("clear village 2 by 101", p, () -> p.clear(2, 101));
        Check.noSuch("clear village -1 by 0", p, () -> p.clear(-1, 0));
        Edges.index("survey village", Made::two, 2, (q, n) -> q.survey(n));
        Edges.index("cut village", Made::two, 2, (q, n) -> q.cut(n));
        Publicanry none = new Publicanry();
        Check.noSuch("clear without a village", none, () -> none.clear(0, 1));
        Check.noSuch("survey without a village", none, () -> none.survey(0));
        Check.noSuch("cut without a village", none, () -> none.cut(0));
    }

    private static void war() {
        for (int many = 0; many <= 8; many++) {
            int villages = many;
            int all = (1 << many) - 1;
            Edges.bounds("war, villages of " + many, () -> withVillages(villages), 0, all, (p, n) -> p.war(n));
        }
        Edges.wrong("war, a village that is not there", Made::two, (p, n) -> p.war(n), 1 << 2, 1 | 1 << 30, 1 << 8);
    }

    private static Publicanry withVillages(int many) {
        Publicanry p = new Publicanry();
        for (int k = 0; k < many; k++) {
            p.village(1, 0, 0, 1);
        }
        return p;
    }

    private static void edict() {
        Edges.index("edict, duty", Publicanry::new, 3, (p, n) -> p.edict(n, 9, 0));
        int[] highest = {300, 60, 9};
        for (int k = 0; k < 3; k++) {
            int duty = k;
            Edges.bounds("edict, rate of " + duty, Publicanry::new, 0, highest[duty], (p, n) -> p.edict(duty, n, 0));
            Edges.bounds("edict, exempt of " + duty, Made::two, 0, 255, (p, n) -> p.edict(duty, 1, n));
        }
        Publicanry p = new Publicanry();
        Check.noSuch("edict of duty 3, rate -1", p, () -> p.edict(3, -1, 0));
        Check.noSuch("edict of duty -1, exempt 256", p, () -> p.edict(-1, 1, 256));
    }

    private static void company() {
        Edges.bounds("company, land", Publicanry::new, 0, 2000, (p, n) -> p.company(n, 0));
        Edges.bounds("company, ring", Publicanry::new, 0, 3, (p, n) -> p.company(0, n));
        Publicanry p = new Publicanry();
        for (int k = 0; k < 3; k++) {
            p.company(1, 0);
        }
        Check.isDone("the fourth company", () -> p.company(2000, 3));
        Check.isRefused("the fifth company", p, () -> p.company(0, 0));
        Check.isWrong("the fifth company, land 2001", p, () -> p.company(2001, 0));
        Check.isWrong("the fifth company, ring 4", p, () -> p.company(0, 4));
    }

    private static void join() {
        Edges.index("join company", Made::two, 2, (p, n) -> p.join(n, 1));
        Edges.bounds("join, shares", Made::two, 1, 99, (p, n) -> p.join(1, n));
        Publicanry p = Made.two();
        Check.noSuch("join company 2, shares 0", p, () -> p.join(2, 0));
        Check.noSuch("join company -1, shares 100", p, () -> p.join(-1, 100));
        for (int k = 1; k < 4; k++) {
            p.join(0, 1);
        }
        Check.isDone("the fifth partner", () -> p.join(0, 99));
        Check.isRefused("the sixth partner", p, () -> p.join(0, 1));
        Check.isWrong("the sixth partner, shares 0", p, () -> p.join(0, 0));
        Check.isWrong("the sixth partner, shares 100", p, () -> p.join(0, 100));
        Check.isDone("the second partner of another one", () -> p.join(1, 1));
    }

    private static void shareOut() {
        Edges.index("share out, company", Made::two, 2, (p, n) -> p.shareOut(n, 1));
        Edges.wrong("share out, amount", Made::two, (p, n) -> p.shareOut(0, n), 0, -1, Integer.MIN_VALUE);
        Publicanry p = Made.two();
        Check.isDone("share out 1", () -> p.shareOut(0, 1));
        Check.isRefused("share out 396 of 395", p, () -> p.shareOut(0, 396));
        Check.isRefused("share out very much", p, () -> p.shareOut(0, Integer.MAX_VALUE));
        Check.isDone("share out 395 of 395", () -> p.shareOut(0, 395));
        Check.isRefused("share out 1 of 0", p, () -> p.shareOut(0, 1));
        Check.isWrong("share out 0 of 0", p, () -> p.shareOut(0, 0));
        Check.noSuch("share out 0 of company 2", p, () -> p.shareOut(2, 0));
        p.company(0, 0);
        Check.isRefused("share out without a partner", p, () -> p.shareOut(2, 1));
        Check.isWrong("share out 0 without a partner", p, () -> p.shareOut(2, 0));
    }

    private static void ringForceBench() {
        Edges.index("ring of company", Made::two, 2, (p, n) -> p.ring(n, 1));
        Edges.bounds("ring", Made::two, 0, 3, (p, n) -> p.ring(1, n));
        Edges.index("force of company", Made::two, 2, (p, n) -> p.force(n, 1));
        Edges.bounds("force", Made::two, 0, 3, (p, n) -> p.force(1, n));
        Edges.bounds("bench", Publicanry::new, 0, 7, (p, n) -> p.bench(n));
        Publicanry p = Made.two();
        Check.noSuch("ring -1 of company 2", p, () -> p.ring(2, -1));
        Check.noSuch("force -1 of company 2", p, () -> p.force(2, -1));
    }

    private static void lot() {
        Edges.index("lot, duty", Made::rich, 3, (p, n) -> p.lot(n, 1, 1, 0));
        Edges.bounds("lot, villages of one", Made::rich, 1, 1, (p, n) -> p.lot(0, n, 1, 0));
        Edges.bounds("lot, villages of two", Made::two, 1, 3, (p, n) -> p.lot(1, n, 1, 0));
        Edges.bounds("lot, villages of eight", () -> withVillages(8), 1, 255, (p, n) -> p.lot(2, n, 1, 0));
        Edges.wrong("lot, a village that is not there", Made::two, (p, n) -> p.lot(1, n, 1, 0), 1 | 1 << 2, 1 | 1 << 30);
        Edges.wrong("lot without a village", Publicanry::new, (p, n) -> p.lot(0, n, 1, 0), 0, 1);
        Edges.bounds("lot, term", Made::rich, 1, 5, (p, n) -> p.lot(0, 1, n, 0));
        Edges.bounds("lot, minimum", Made::rich, 0, 5000, (p, n) -> p.lot(0, 1, 1, n));
        Publicanry p = withVillages(8);
        for (int k = 0; k < 7; k++) {
            p.lot(0, 1 << k, 1, 0);
        }
        Check.isDone("the eighth lot", () -> p.lot(0, 1 << 7, 5, 5000));
        Check.isRefused("the ninth lot", p, () -> p.lot(1, 1, 1, 0));
        Check.isWrong("the ninth lot, no village", p, () -> p.lot(1, 0, 1, 0));
        Check.isWrong("the ninth lot, term 6", p, () -> p.lot(1, 1, 6, 0));
        Check.isWrong("the ninth lot, minimum 5001", p, () -> p.lot(1, 1, 1, 5001));
        Check.noSuch("the ninth lot, duty 3, term 0", p, () -> p.lot(3, 1, 0, 0));
        Check.noSuch("the ninth lot, duty -1", p, () -> p.lot(-1, 1, 1, 0));
    }

    private static void lotInCommon() {
        Publicanry p = Made.two();
        Check.isRefused("in common with one that is offered", p, () -> p.lot(0, 2, 1, 0));
        Check.isWrong("in common, term 0", p, () -> p.lot(0, 2, 0, 0));
        Check.isWrong("in common, minimum -1", p, () -> p.lot(0, 2, 1, -1));
        Check.isDone("of a duty that no other one has", () -> p.lot(1, 2, 1, 0));
        Check.isDone("of a village that no other one has", () -> p.lot(1, 1, 1, 0));
        p.award(0);
        Check.isDone("in common with one that failed", () -> p.lot(0, 2, 1, 0));
        Publicanry q = Made.leased();
        Check.isRefused("in common with one that is leased", q, () -> q.lot(0, 2, 1, 0));
        q.pass(5);
        Check.isRefused("till its last autumn", q, () -> q.lot(0, 2, 1, 0));
        q.pass(1);
        Check.isDone("in common with one that is over", () -> q.lot(0, 2, 1, 0));
    }

    private static void bid() {
        Edges.index("bid of company", Made::two, 2, (p, n) -> p.bid(n, 1, 1));
        Edges.index("bid, lot", Made::two, 2, (p, n) -> p.bid(1, n, 1));
        Edges.wrong("bid, amount", Made::two, (p, n) -> p.bid(0, 0, n), 0, -1, 9001, Integer.MIN_VALUE, Integer.MAX_VALUE);
        Publicanry p = Made.two();
        Check.isRefused("9000 are allowed, but for land of 2000", p, () -> p.bid(0, 0, 9000));
        Check.noSuch("bid 0 of company 2", p, () -> p.bid(2, 0, 0));
        Check.noSuch("bid 9001 for lot 2", p, () -> p.bid(0, 2, 9001));
        p.award(0);
        Check.noSuch("bid of company 2 for one that failed", p, () -> p.bid(2, 0, 1));
        Check.isWrong("bid 0 for one that failed", p, () -> p.bid(0, 0, 0));
        Check.isWrong("bid 9001 for one that failed", p, () -> p.bid(0, 0, 9001));
    }

    private static void bidRefused() {
        Publicanry p = Made.leased();
        Check.isRefused("bid for one that is leased", p, () -> p.bid(1, 0, 1));
        p.pass(6);
        Check.isRefused("bid for one that is over", p, () -> p.bid(1, 0, 1));
        p.lot(1, 1, 1, 0);
        p.award(2);
        Check.isRefused("bid for one that failed", p, () -> p.bid(1, 2, 1));
        p.company(3, 0);
        int lot = p.lot(0, 1, 1, 0);
        Check.isRefused("land of 3 for 16", p, () -> p.bid(2, lot, 16));
        Check.isWrong("land of 3 for 9001", p, () -> p.bid(2, lot, 9001));
        Check.isDone("land of 3 for 15", () -> p.bid(2, lot, 15));
        p.award(lot);
        Check.is("banned", p.ofCompany(2, 5), 1);
        int next = p.lot(0, 1, 1, 0);
        Check.isRefused("bid of one that is banned", p, () -> p.bid(2, next, 1));
        Check.isWrong("bid 0 of one that is banned", p, () -> p.bid(2, next, 0));
        Check.noSuch("bid of one that is banned for lot 5", p, () -> p.bid(2, 5, 1));
    }

    private static void award() {
        Edges.index("award lot", Made::two, 2, (p, n) -> p.award(n));
        Edges.index("would win lot", Made::two, 2, (p, n) -> p.wouldWin(n));
        Publicanry p = Made.two();
        p.award(1);
        Check.isRefused("award one that failed", p, () -> p.award(1));
        Check.isRefused("would win one that failed", p, () -> p.wouldWin(1));
        Publicanry q = Made.leased();
        Check.isRefused("award one that is leased", q, () -> q.award(0));
        Check.isRefused("would win one that is leased", q, () -> q.wouldWin(0));
        q.pass(6);
        Check.isRefused("award one that is over", q, () -> q.award(0));
        Check.isRefused("would win one that is over", q, () -> q.wouldWin(0));
    }

    private static void letOn() {
        Edges.index("let on, lot", Made::leased, 2, (p, n) -> p.letOn(n, 0, 1));
        Edges.index("let on, village", Made::leased, 2, (p, n) -> p.letOn(0, n, 1));
        Edges.bounds("let on, price", Made::leased, 1, 999, (p, n) -> p.letOn(1, 1, n));
        Publicanry p = Made.leased();
        Check.noSuch("let on, lot 2, price 0", p, () -> p.letOn(2, 0, 0));
        Check.noSuch("let on, village 2, price 1000", p, () -> p.letOn(0, 2, 1000));
        Publicanry q = Made.two();
        Check.noSuch("let on, village 2 of one that is offered", q, () -> q.letOn(0, 2, 1));
        Check.isWrong("let on, price 0 of one that is offered", q, () -> q.letOn(0, 0, 0));
    }

    private static void letOnRefused() {
        Publicanry p = Made.two();
        Check.isRefused("let on of one that is offered", p, () -> p.letOn(0, 0, 1));
        p.award(0);
        Check.isRefused("let on of one that failed", p, () -> p.letOn(0, 0, 1));
        Publicanry q = Made.leased();
        q.village(1, 0, 0, 1);
        Check.isRefused("let on a village that is not in its set", q, () -> q.letOn(0, 2, 1));
        Check.isWrong("let on such a one, price 0", q, () -> q.letOn(0, 2, 0));
        q.letOn(0, 1, 1);
        Check.isRefused("let on one that is let on already", q, () -> q.letOn(0, 1, 2));
        Check.isWrong("let on such a one, price 1000", q, () -> q.letOn(0, 1, 1000));
        Check.isDone("let on that of another lot", () -> q.letOn(1, 1, 1));
        q.pass(5);
        Check.isDone("let on ahead of its last autumn", () -> q.letOn(1, 0, 1));
        q.pass(1);
        Check.isRefused("let on of one that is over", q, () -> q.letOn(0, 0, 1));
    }

    private static Publicanry wealthy() {
        Publicanry p = Made.two();
        p.join(0, 99);
        p.join(0, 99);
        return p;
    }

    private static void deliver() {
        Edges.index("deliver, company", Made::two, 2, (p, n) -> p.deliver(n, 1));
        Edges.bounds("deliver, grain", ThrowsTellingTest::wealthy, 1, 500, (p, n) -> p.deliver(0, n));
        Publicanry p = Made.two();
        Check.noSuch("deliver 0 of company 2", p, () -> p.deliver(2, 0));
        Made.leave(p, 0, 7);
        Check.isRefused("deliver 4 for 7", p, () -> p.deliver(0, 4));
        Check.isRefused("deliver 500 for 7", p, () -> p.deliver(0, 500));
        Check.isWrong("deliver 501 for 7", p, () -> p.deliver(0, 501));
        Check.isDone("deliver 3 for 7", () -> p.deliver(0, 3));
        Check.isRefused("deliver 1 for 1", p, () -> p.deliver(0, 1));
        Check.isWrong("deliver 0 for 1", p, () -> p.deliver(0, 0));
        Made.leave(p, 1, 8);
        Check.isDone("deliver 4 for 8", () -> p.deliver(1, 4));
        Check.isRefused("deliver 1 for 0", p, () -> p.deliver(1, 1));
    }

    private static Publicanry autumn() {
        Publicanry p = Made.leased();
        p.pass(2);
        return p;
    }

    private static void sue() {
        Edges.index("sue, village", ThrowsTellingTest::autumn, 2, (p, n) -> p.sue(n, 0));
        Publicanry p = autumn();
        for (int duty : new int[] {-1, 3, Integer.MIN_VALUE, Integer.MAX_VALUE}) {
            Check.noSuch("sue, duty " + duty, p, () -> p.sue(0, duty));
        }
        Check.isRefused("sue without a levy of that", p, () -> p.sue(0, 1));
        Check.isDone("sue for the tenth", () -> p.sue(0, 0));
        Check.isDone("sue for hearths", () -> p.sue(0, 2));
        Check.isRefused("sue once more", p, () -> p.sue(0, 0));
        p.pass(1);
        Check.isRefused("sue once more in winter", p, () -> p.sue(0, 0));
        Check.isDone("sue in winter of another village", () -> p.sue(1, 0));
        p.pass(1);
        Check.isRefused("sue in the next spring", p, () -> p.sue(1, 2));
        p.pass(1);
        Check.isRefused("sue in the next summer", p, () -> p.sue(1, 2));
        p.pass(1);
        Check.isDone("sue for the next levy", () -> p.sue(0, 0));
    }

    private static void gift() {
        Edges.index("gift of company", Made::two, 2, (p, n) -> p.gift(n, 1));
        Edges.bounds("gift", ThrowsTellingTest::wealthy, 1, 500, (p, n) -> p.gift(0, n));
        Publicanry p = Made.two();
        Check.noSuch("gift 0 of company 2", p, () -> p.gift(2, 0));
        Check.isRefused("gift 397 of 396", p, () -> p.gift(0, 397));
        Check.isRefused("gift 500 of 396", p, () -> p.gift(0, 500));
        Check.isWrong("gift 501 of 396", p, () -> p.gift(0, 501));
        Check.isDone("gift 396 of 396", () -> p.gift(0, 396));
        Check.isRefused("gift 1 of 0", p, () -> p.gift(0, 1));
        Check.isWrong("gift 0 of 0", p, () -> p.gift(0, 0));
    }

    private static void quarterClerks() {
        Edges.index("quarter, village", Made::two, 2, (p, n) -> p.quarter(n));
        Edges.index("clerks, duty", Publicanry::new, 3, (p, n) -> p.clerks(n, true));
        Edges.index("no clerks, duty", Publicanry::new, 3, (p, n) -> p.clerks(n, false));
    }

    private static void remit() {
        Publicanry p = Made.leased();
        for (int season = 0; season < 3; season++) {
            Check.isRefused("remit in season " + season, p, () -> p.remit(0));
            p.pass(1);
        }
        for (int lot : new int[] {-1, 2, Integer.MIN_VALUE, Integer.MAX_VALUE}) {
            Check.noSuch("remit, lot " + lot, p, () -> p.remit(lot));
        }
        Check.isDone("remit in winter", () -> p.remit(0));
        Check.isRefused("remit again", p, () -> p.remit(0));
        Check.isDone("remit of the other lot", () -> p.remit(1));
        p.lot(1, 1, 1, 0);
        Check.isRefused("remit of one that is offered", p, () -> p.remit(2));
        p.bid(0, 2, 4);
        p.award(2);
        Check.isDone("remit of one that is leased in winter", () -> p.remit(2));
        p.pass(4);
        Check.isRefused("remit of one that is over, in winter", p, () -> p.remit(0));
        p.lot(0, 1, 1, 0);
        p.award(3);
        Check.isRefused("remit of one that failed, in winter", p, () -> p.remit(3));
        Publicanry q = Made.rich();
        Made.lease(q, 0, Made.TENTH, 1, 3, 30);
        q.pass(3);
        q.remit(0);
        q.pass(1);
        Check.isRefused("remit in the next spring", q, () -> q.remit(0));
        q.pass(3);
        Check.isDone("remit in the next winter", () -> q.remit(0));
    }

    private static Publicanry inSeason(int season) {
        Publicanry p = new Publicanry();
        for (int now = 0; now < season; now += 20) {
            p.pass(Math.min(20, season - now));
        }
        return p;
    }

    private static void pass() {
        Edges.bounds("pass", Publicanry::new, 1, 20, (p, n) -> p.pass(n));
        Check.is("pass to season 160", inSeason(140).pass(20), 160);
        Publicanry late = inSeason(141);
        Check.isRefused("pass 20 of season 141", late, () -> late.pass(20));
        Check.isWrong("pass 21 of season 141", late, () -> late.pass(21));
        Check.isDone("pass 19 of season 141", () -> late.pass(19));
        Check.isRefused("pass 1 of season 160", late, () -> late.pass(1));
        Check.isRefused("pass 20 of season 160", late, () -> late.pass(20));
        Edges.wrong("pass of season 160", () -> inSeason(160), (p, n) -> p.pass(n), 0, -1, 21, Integer.MAX_VALUE);
    }

    private static void neverThrow() {
        Publicanry none = new Publicanry();
        Check.is("recall with an empty chest", none.recall(), 0);
        Check.is("call for the first time", none.call(), 1);
        for (int k = 2; k <= 510; k++) {
            none.call();
        }
        Check.is("the 512th call of all", none.call(), 511);
        Publicanry late = inSeason(160);
        Check.is("recall in season 160", late.recall(), 0);
    }
}
