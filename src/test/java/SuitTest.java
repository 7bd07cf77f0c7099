/** Promises 18, 19 and 39: suits and judges. */
final class SuitTest {
    private SuitTest() {
    }

    static void run() {
        won();
        wonOfTheTenth();
        lost();
        setAside();
        paysWhatItHas();
        sueWrong();
        agentsLevy();
        bench();
        votes();
    }

    private static void won() {
        Publicanry p = Made.collected(Made.HEARTH, 3);
        Check.is("unrest ahead", p.ofVillage(0, 7), 2);
        Check.is("won", p.sue(0, 2), 1);
        Check.isText("twice 7", Check.row(p.ofVillage(0, 5), p.ofCompany(0, 2)), Check.row(14, 356 + 27 - 14));
        Check.isText("unrest, suits", Check.row(p.ofVillage(0, 7), p.land(10), p.land(11), p.land(12), p.land(9)), "0 1 0 0 0");
        Publicanry q = Made.collected(Made.HEARTH, 3);
        q.quarter(0);
        q.sue(0, 2);
        Check.is("unrest is 2 less", q.ofVillage(0, 7), 3);
        Check.is("sued for", p.levy(0, 2, 5), 1);
        Check.isRefused("once for each levy", p, () -> p.sue(0, 2));
    }

    private static void wonOfTheTenth() {
        Publicanry p = Made.collected(Made.TENTH, 2);
        Check.is("won", p.sue(0, 0), 1);
        Check.isText("4 times 6", Check.row(p.ofVillage(0, 5), p.ofCompany(0, 2)), Check.row(24, 356 + 138 - 24));
        Check.is("unrest is 0 at least", p.ofVillage(0, 7), 0);
    }

    private static void lost() {
        Publicanry p = Made.collected(Made.TENTH, 3);
        p.bench(4);
        Check.is("3 of 7 are for it", p.sue(0, 0), 0);
        Check.isText("unrest, suits", Check.row(p.ofVillage(0, 7), p.land(10), p.land(11), p.land(12)), "3 0 1 0");
        Check.is("nothing is paid", p.ofVillage(0, 5), 0);
        Check.isRefused("once for each levy", p, () -> p.sue(0, 0));
        Publicanry q = Made.collected(Made.TENTH, 0);
        q.bench(0);
        Check.is("less was got than is due", q.sue(0, 0), 0);
        Publicanry r = Made.collected(Made.TENTH, 0);
        r.gift(0, 50);
        r.sue(0, 0);
        Check.isText("a lost one costs no favour", Check.row(r.ofCompany(0, 9), r.land(9), r.land(11)), "50 0 1");
    }

    private static void setAside() {
        Publicanry p = Made.collected(Made.TENTH, 3);
        p.company(100, 0);
        p.join(1, 99);
        p.gift(1, 300);
        p.gift(0, 60);
        Check.is("set aside", p.sue(0, 0), 2);
        Check.isText("50 are spent", Check.row(p.ofCompany(0, 9), p.ofCompany(1, 9), p.land(9), p.land(7)), "10 300 1 360");
        Check.isText("nothing is paid, unrest stays", Check.row(p.ofVillage(0, 5), p.ofVillage(0, 7)), "0 2");
        Check.isText("suits", Check.row(p.land(10), p.land(11), p.land(12)), "0 0 1");
        Check.isRefused("once for each levy", p, () -> p.sue(0, 0));
        Publicanry q = Made.collected(Made.TENTH, 3);
        q.gift(0, 49);
        Check.is("with 49 he does not", q.sue(0, 0), 1);
        Publicanry r = Made.collected(Made.TENTH, 3);
        r.gift(0, 50);
        Check.is("with 50 he does", r.sue(0, 0), 2);
        Publicanry s = Made.collected(Made.TENTH, 3);
        s.company(100, 0);
        s.join(1, 99);
        s.gift(1, 300);
        Check.is("gifts of another company", s.sue(0, 0), 1);
    }

    private static void paysWhatItHas() {
        Publicanry p = Made.collected(Made.TENTH, 3);
        p.shareOut(0, p.ofCompany(0, 2) - 5);
        Check.is("won", p.sue(0, 0), 1);
        Check.isText("5 of 92", Check.row(p.ofVillage(0, 5), p.ofCompany(0, 2)), "5 0");
    }

    private static void sueWrong() {
        Publicanry p = Made.rich();
        Check.isRefused("without a levy", p, () -> p.sue(0, 0));
        Check.noSuch("village 1", p, () -> p.sue(1, 0));
        Check.noSuch("village -1", p, () -> p.sue(-1, 0));
        Check.noSuch("duty 3", p, () -> p.sue(0, 3));
        Check.noSuch("duty -1", p, () -> p.sue(0, -1));
        Publicanry q = Made.collected(Made.TENTH, 3);
        Check.isRefused("of another duty", q, () -> q.sue(0, 1));
        q.pass(1);
        Check.is("in winter", q.sue(0, 0), 1);
        Publicanry r = Made.collected(Made.TENTH, 3);
        r.pass(2);
        Check.isRefused("in the next year", r, () -> r.sue(0, 0));
        Made.lease(r, 0, Made.TENTH, 1, 2, 40);
        r.pass(2);
        Check.is("for the next levy", r.sue(0, 0), 1);
        r.pass(4);
        Check.is("and for one more", r.sue(0, 0), 1);
    }

    private static void agentsLevy() {
        Publicanry p = Made.rich();
        Made.lease(p, 0, Made.TENTH, 1, 1, 40);
        p.letOn(0, 0, 10);
        p.pass(2);
        Check.is("won", p.sue(0, 0), 1);
        Check.isText("the company pays", Check.row(p.ofVillage(0, 5), p.ofCompany(0, 2)), Check.row(92, 366 - 92));
    }

    private static void bench() {
        Publicanry p = new Publicanry();
        Check.is("at first", p.bench(7), 3);
        Check.is("before", p.bench(0), 7);
        Check.is("before that", p.bench(2), 0);
        Check.isWrong("-1 judges", p, () -> p.bench(-1));
        Check.isWrong("8 judges", p, () -> p.bench(8));
        Check.is("is not changed", p.bench(3), 2);
    }

    private static void votes() {
        Publicanry p = Made.rich();
        p.pass(1);
        Check.isText("of 63 due", Check.row(p.votes(0, 0, 62, 3), p.votes(0, 0, 63, 3), p.votes(0, 0, 64, 3),
            p.votes(0, 0, 94, 3), p.votes(0, 0, 95, 3)), "0 0 4 4 7");
        Check.isText("with other benches", Check.row(p.votes(0, 0, 64, 0), p.votes(0, 0, 64, 7), p.votes(0, 0, 95, 7),
            p.votes(0, 0, 9999, 2)), "7 0 7 7");
        Check.isText("of 20 due", Check.row(p.votes(0, 2, 30, 5), p.votes(0, 2, 31, 5)), "2 7");
        p.edict(2, 0, 0);
        p.pass(4);
        Check.isText("of nothing due by the law", Check.row(p.votes(0, 2, 0, 3), p.votes(0, 2, 1, 3)), "0 7");
        Check.isWrong("got -1", p, () -> p.votes(0, 0, -1, 3));
        Check.isWrong("got 10000", p, () -> p.votes(0, 0, 10000, 3));
        Check.isWrong("bidders -1", p, () -> p.votes(0, 0, 1, -1));
        Check.isWrong("bidders 8", p, () -> p.votes(0, 0, 1, 8));
        Check.noSuch("village 1", p, () -> p.votes(1, 0, -1, 3));
        Check.noSuch("village -1", p, () -> p.votes(-1, 0, 1, 3));
        Check.noSuch("duty 3", p, () -> p.votes(0, 3, 1, 8));
        Check.noSuch("duty -1", p, () -> p.votes(0, -1, 1, 3));
    }
}
