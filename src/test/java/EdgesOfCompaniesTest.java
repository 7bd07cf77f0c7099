/** Sentences of section 4 that name an edge: partners and what is shared out. */
final class EdgesOfCompaniesTest {
    private EdgesOfCompaniesTest() {
    }

    static void run() {
        fourForEachShare();
        leftOverToTheGreatestRest();
        ofSeveralTheSmallestNumber();
        nothingIsLeftOver();
        toldEver();
        allOfTheChest();
    }

    private static void fourForEachShare() {
        for (int shares : new int[] {1, 50, 99}) {
            Publicanry p = new Publicanry();
            p.company(0, 0);
            p.join(0, shares);
            Check.isText("chest, world, shares", Check.row(p.ofCompany(0, 2), p.land(8), p.ofCompany(0, 7)),
                Check.row(4 * shares, -4 * shares, shares));
        }
        Publicanry q = new Publicanry();
        q.company(0, 0);
        for (int k = 0; k < 5; k++) {
            q.join(0, 99);
        }
        Check.isText("the most", Check.row(q.ofCompany(0, 2), q.ofCompany(0, 6), q.ofCompany(0, 7)), "1980 5 495");
    }

    private static String shared(int amount, int... shares) {
        Publicanry p = new Publicanry();
        p.company(0, 0);
        for (int share : shares) {
            p.join(0, share);
        }
        p.shareOut(0, amount);
        StringBuilder told = new StringBuilder();
        int all = 0;
        for (int k = 0; k < shares.length; k++) {
            told.append(k == 0 ? "" : " ").append(p.partner(0, k, true));
            all += p.partner(0, k, true);
        }
        Check.is("all of it is told", all, amount);
        return told.toString();
    }

    private static void leftOverToTheGreatestRest() {
        Check.isText("1.17, 2.33, 3.5", shared(7, 1, 2, 3), "1 2 4");
        Check.isText("1.33, 2.67, 4", shared(8, 1, 2, 3), "1 3 4");
        Check.isText("0.4, 0.6", shared(1, 2, 3), "0 1");
        Check.isText("0.6, 0.4", shared(1, 3, 2), "1 0");
        Check.isText("0.99, 0.01", shared(1, 99, 1), "1 0");
        Check.isText("0.01, 0.99", shared(1, 1, 99), "0 1");
        Check.isText("4 of 0.8 each", shared(4, 1, 1, 1, 1, 1), "1 1 1 1 0");
        Check.isText("0.27, 0.53, 1.07, 1.87, 0.27", shared(4, 1, 2, 4, 7, 1), "0 1 1 2 0");
    }

    private static void ofSeveralTheSmallestNumber() {
        Check.isText("1 of three that are alike", shared(1, 5, 5, 5), "1 0 0");
        Check.isText("2 of three that are alike", shared(2, 5, 5, 5), "1 1 0");
        Check.isText("1 of 1.33 each", shared(4, 5, 5, 5), "2 1 1");
        Check.isText("0.2, 0.4, 0.4", shared(1, 1, 2, 2), "0 1 0");
        Check.isText("0.4, 0.2, 0.4", shared(1, 2, 1, 2), "1 0 0");
    }

    private static void nothingIsLeftOver() {
        Check.isText("one partner", shared(1, 1), "1");
        Check.isText("one partner with more", shared(396, 99), "396");
        Check.isText("1 each", shared(3, 5, 5, 5), "1 1 1");
        Check.isText("4 for each share", shared(24, 1, 2, 3), "4 8 12");
    }

    private static void toldEver() {
        Publicanry p = new Publicanry();
        p.company(0, 0);
        p.join(0, 10);
        p.shareOut(0, 9);
        p.join(0, 10);
        Check.isText("one who came later", Check.row(p.partner(0, 0, true), p.partner(0, 1, true)), "9 0");
        p.shareOut(0, 1);
        p.shareOut(0, 1);
        Check.isText("is summed", Check.row(p.partner(0, 0, true), p.partner(0, 1, true)), "11 0");
        p.shareOut(0, 2);
        Check.isText("1 each", Check.row(p.partner(0, 0, true), p.partner(0, 1, true)), "12 1");
    }

    private static void allOfTheChest() {
        Publicanry p = new Publicanry();
        p.company(0, 0);
        p.join(0, 1);
        Check.isRefused("5 of 4", p, () -> p.shareOut(0, 5));
        Check.is("4 of 4", p.shareOut(0, 4), 0);
        Check.is("to the world", p.land(8), 0);
    }
}
