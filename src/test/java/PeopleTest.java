/** Promises 25 and 27, and section 3: seasons, eating, debts, flight, revolt. */
final class PeopleTest {
    private PeopleTest() {
    }

    static void run() {
        pass();
        skies();
        poorHouses();
        buying();
        revolt();
        revoltAtTwelve();
        ofVillage();
    }

    private static void pass() {
        Publicanry p = new Publicanry();
        Check.is("a season", p.pass(1), 1);
        Check.is("twenty seasons", p.pass(20), 21);
        Check.isText("season and year", Check.row(p.land(0), p.land(1)), "21 5");
        Check.isWrong("no season", p, () -> p.pass(0));
        Check.isWrong("21 seasons", p, () -> p.pass(21));
        Check.isWrong("-1 seasons", p, () -> p.pass(-1));
        for (int k = 0; k < 6; k++) {
            p.pass(20);
        }
        Check.isRefused("season 161", p, () -> p.pass(20));
        Check.isWrong("21 seasons, late", p, () -> p.pass(21));
        Check.is("season 160", p.pass(19), 160);
        Check.isRefused("season 161 by one", p, () -> p.pass(1));
    }

    private static void skies() {
        Publicanry p = new Publicanry();
        int[] skies = {5, 6, 2, 7, 9, 1, 0, 4, 10, 8, 5, 6};
        for (int year = 0; year < skies.length; year++) {
            Check.is("the sky of the year " + year, p.land(2), skies[year]);
            p.pass(3);
            Check.is("the sky in winter of " + year, p.land(2), skies[year]);
            p.pass(1);
        }
    }

    private static String people(Publicanry p) {
        return Check.row(p.ofVillage(0, 0), p.ofVillage(0, 6), p.ofVillage(0, 7), p.ofVillage(0, 13));
    }

    private static void poorHouses() {
        Publicanry p = new Publicanry();
        p.village(10, 0, 0, 1);
        p.pass(3);
        Check.is("each house eats 1 a season", p.ofVillage(0, 4), 10);
        p.pass(1);
        Check.isText("nothing is left, nothing is owed", people(p), "10 0 0 0");
        p.pass(1);
        Check.isText("4 are borrowed for each", people(p), "10 40 0 0");
        p.pass(2);
        Check.isText("12 for each house hold", people(p), "10 120 0 0");
        String[] then = {"8 89 2 2", "7 60 4 3", "6 44 6 4", "6 68 5 4", "5 51 7 5", "4 35 9 6", "3 25 11 7", "2 18 13 8",
            "1 14 15 9", "1 9 17 9", "1 6 19 9", "1 10 18 9", "1 7 20 9", "1 11 19 9", "1 7 20 9"};
        for (int k = 0; k < then.length; k++) {
            p.pass(1);
            Check.isText("season " + (8 + k), people(p), then[k]);
            Check.is("in revolt in season " + (8 + k), p.ofVillage(0, 10), k >= 7 ? 1 : 0);
        }
        Check.isText("no coins move", Check.row(p.ofVillage(0, 4), p.ofVillage(0, 5), p.land(8)), "0 0 0");
        Check.isText("a line of it", p.tell(0), "0: 1 houses, revolt, owes 7");
    }

    /** A village that wins a suit has coins to buy for. */
    private static void buying() {
        Publicanry p = new Publicanry();
        p.village(10, 0, 0, 1);
        p.company(2000, 0);
        p.join(0, 99);
        Made.lease(p, 0, Made.HEARTH, 1, 1, 4);
        p.force(0, 3);
        p.pass(2);
        Check.isText("borrowed for the hearths", Check.row(p.ofVillage(0, 6), p.levy(0, 2, 2)), "27 27");
        p.bench(0);
        p.sue(0, 2);
        Check.is("14 of a suit", p.ofVillage(0, 5), 14);
        p.pass(1);
        Check.isText("paid back in winter", Check.row(p.ofVillage(0, 5), p.ofVillage(0, 6)), "0 13");
        p.pass(1);
        Check.is("13 * 3 / 20 is 1 more", p.ofVillage(0, 6), 14);
        Publicanry q = new Publicanry();
        q.village(6, 0, 0, 1);
        q.company(2000, 0);
        q.join(0, 99);
        q.pass(4);
        Made.lease(q, 0, Made.HEARTH, 1, 1, 4);
        q.force(0, 3);
        q.pass(2);
        Check.isText("two seasons and 16 for hearths", Check.row(q.ofVillage(0, 4), q.ofVillage(0, 6)), "0 64");
        q.bench(0);
        Check.is("won", q.sue(0, 2), 1);
        Check.is("twice 4", q.ofVillage(0, 5), 8);
        q.pass(1);
        Check.isText("2 are bought for 3 each, 4 borrowed for 4, 2 paid back of 80 / 2",
            Check.row(q.ofVillage(0, 0), q.ofVillage(0, 4), q.ofVillage(0, 5), q.ofVillage(0, 6)), "5 0 0 38");
        Publicanry r = new Publicanry();
        r.village(8, 0, 0, 1);
        r.company(2000, 0);
        r.join(0, 99);
        r.pass(4);
        Made.lease(r, 0, Made.HEARTH, 1, 1, 4);
        r.force(0, 3);
        r.pass(2);
        r.sue(0, 2);
        Check.isText("12 of a suit", Check.row(r.ofVillage(0, 5), r.ofVillage(0, 6)), "12 86");
        r.pass(1);
        Check.isText("4 are bought, 4 borrowed", Check.row(r.ofVillage(0, 0), r.ofVillage(0, 5), r.ofVillage(0, 6)), "7 0 51");
    }

    private static void revolt() {
        Publicanry p = Made.rich();
        for (int k = 0; k < 4; k++) {
            p.quarter(0);
        }
        p.pass(1);
        Check.isText("11 is no revolt", Check.row(p.ofVillage(0, 7), p.ofVillage(0, 10)), "11 0");
        for (int k = 0; k < 5; k++) {
            p.quarter(0);
        }
        Check.isText("20 at most, and no revolt till it is asked", Check.row(p.ofVillage(0, 7), p.ofVillage(0, 10)), "20 0");
        Made.lease(p, 0, Made.TENTH, 1, 5, 40);
        p.pass(1);
        Check.isText("asked while it was not in revolt", Check.row(p.levy(0, 0, 0), p.ofVillage(0, 10)), "0 1");
        p.pass(4);
        Check.isText("in revolt nothing is asked", Check.row(p.levy(0, 0, 0), p.ofVillage(0, 7)), "0 15");
        Check.is("what would be brought by it", p.wouldBring(0, 3), 0);
        p.pass(10);
        Check.isText("with 5 still", Check.row(p.ofVillage(0, 7), p.ofVillage(0, 10)), "5 1");
        p.pass(1);
        Check.isText("not with 4", Check.row(p.ofVillage(0, 7), p.ofVillage(0, 10)), "4 0");
        p.pass(9);
        Check.is("0 at least", p.ofVillage(0, 7), 0);
    }

    private static void revoltAtTwelve() {
        Publicanry p = Made.rich();
        Made.lease(p, 0, Made.TENTH, 1, 1, 4);
        Made.lease(p, 0, Made.HEARTH, 1, 1, 4);
        p.force(0, 2);
        p.pass(1);
        p.quarter(0);
        p.quarter(0);
        p.quarter(0);
        p.pass(1);
        Check.isText("9 and 4 less 1 are 12", Check.row(p.ofVillage(0, 7), p.ofVillage(0, 10)), "12 1");
    }

    private static void ofVillage() {
        Publicanry p = Made.rich();
        Check.isWrong("what -1", p, () -> p.ofVillage(0, -1));
        Check.isWrong("what 14", p, () -> p.ofVillage(0, 14));
        Check.noSuch("village 1", p, () -> p.ofVillage(1, 14));
        Check.noSuch("village -1", p, () -> p.ofVillage(-1, 0));
    }
}
