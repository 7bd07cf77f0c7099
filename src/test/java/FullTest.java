/** A province with as much as there can be of all: 8 villages, 4 companies with 5 partners, 8 lots, 160 seasons. */
final class FullTest {
    private FullTest() {
    }

    static void run() {
        fullRing();
        Publicanry p = full();
        Check.is("nobody burnt", p.war(0), 0);
        Check.is("all burnt", p.war(255), 8);
        Check.is("none of the lots is free", p.land(5), 8);
        Check.is("its digest", p.digest(), AskedTest.byHand(p));
        for (int season = 1; season <= 160; season++) {
            p.pass(1);
            if (season % 4 == 3 && season < 12) {
                remitAll(p);
            }
            Check.is("sound in season " + season, p.isSound(), true);
            Check.is("the digest in season " + season, p.digest(), AskedTest.byHand(p));
        }
        p.recall();
        Check.is("no gifts", p.ofCompany(3, 9), 0);
        Check.is("all lots are over", p.ofLot(7, 4), 2);
        Check.is("clerks brought some", p.law(0, 4) > 0, true);
        for (int k = 0; k < 8; k++) {
            Check.is("a levy of " + k, p.levy(k, k % 2 == 0 ? 0 : 2, 0), 4);
            Check.is("herd of " + k, p.ofVillage(k, 2), 600);
        }
    }

    private static void fullRing() {
        Publicanry p = new Publicanry();
        for (int k = 0; k < 8; k++) {
            p.village(10, 600, 100, 9);
            p.lot(0, 1 << k, 1, 0);
        }
        for (int k = 0; k < 4; k++) {
            p.company(2000, 2);
            p.join(k, 10);
            p.bid(k, 0, 50 + k);
        }
        Check.is("the last of four wins", p.award(0), 3);
        Check.isText("all of its ring get 5", Check.row(p.ofCompany(0, 2), p.ofCompany(1, 2), p.ofCompany(2, 2),
            p.ofCompany(3, 2)), "45 45 45 25");
        p.bid(3, 7, 26);
        Check.is("a default of the last", p.award(7), 3);
        Check.isText("all of its lots are over", Check.row(p.ofLot(0, 4), p.ofLot(7, 4), p.ofLot(6, 4)), "2 2 0");
    }

    private static Publicanry full() {
        Publicanry p = new Publicanry();
        for (int k = 0; k < 8; k++) {
            p.village(10 + k, 600 - 20 * k, 100, 9 - k);
        }
        for (int k = 0; k < 4; k++) {
            p.company(2000, k);
            for (int j = 0; j < 5; j++) {
                p.join(k, 99);
            }
            p.gift(k, 100);
            p.force(k, 1);
        }
        for (int k = 0; k < 8; k++) {
            p.lot(k % 2 == 0 ? 0 : 2, 1 << k, 5, 10);
            p.bid(k / 2, k, 40 + k);
            p.bid(3 - k / 2, k, 20 + k);
            Check.is("won", p.award(k), k / 2);
        }
        for (int k = 0; k < 3; k++) {
            p.clerks(k, true);
        }
        return p;
    }

    private static void remitAll(Publicanry p) {
        for (int k = 0; k < 8; k++) {
            p.remit(k);
        }
    }
}
