/** Promises 1 to 5 and 40: a new object, villages, clearing, surveys, wars, harvests. */
final class LandTest {
    private LandTest() {
    }

    static void run() {
        newObject();
        village();
        clear();
        survey();
        surveyCosts();
        war();
        harvest();
        harvestComes();
        selling();
    }

    private static void newObject() {
        Publicanry p = new Publicanry();
        for (int what = 0; what <= 16; what++) {
            Check.is("new: land " + what, p.land(what), what == 2 ? 5 : 0);
        }
        int[] rates = {100, 10, 2};
        for (int duty = 0; duty < 3; duty++) {
            Check.isText("new: law " + duty,
                Check.row(p.law(duty, 0), p.law(duty, 1), p.law(duty, 2), p.law(duty, 3), p.law(duty, 4)),
                Check.row(rates[duty], 0, -1, 0, 0));
        }
        Check.is("new: bench", p.bench(3), 3);
        Check.is("new: sound", p.isSound(), true);
        Check.noSuch("new: village 0", p, () -> p.ofVillage(0, 0));
    }

    private static void village() {
        Publicanry p = new Publicanry();
        Check.is("village 0", p.village(1, 0, 0, 1), 0);
        Check.is("village 1", p.village(90, 600, 600, 9), 1);
        long[] want = {90, 600, 600, 9, 360, 0, 0, 0, 600, 0, 0, 0, 0, 0};
        for (int what = 0; what < 14; what++) {
            Check.is("a village as it is told: " + what, p.ofVillage(1, what), want[what]);
        }
        Check.isWrong("village, houses 0", p, () -> p.village(0, 1, 1, 1));
        Check.isWrong("village, houses 91", p, () -> p.village(91, 1, 1, 1));
        Check.isWrong("village, fields -1", p, () -> p.village(1, -1, 1, 1));
        Check.isWrong("village, fields 601", p, () -> p.village(1, 601, 1, 1));
        Check.isWrong("village, herd -1", p, () -> p.village(1, 1, -1, 1));
        Check.isWrong("village, herd 601", p, () -> p.village(1, 1, 601, 1));
        Check.isWrong("village, soil 0", p, () -> p.village(1, 1, 1, 0));
        Check.isWrong("village, soil 10", p, () -> p.village(1, 1, 1, 10));
        for (int k = 2; k < 8; k++) {
            Check.is("village " + k, p.village(1, 1, 1, 1), k);
        }
        Check.isRefused("a ninth village", p, () -> p.village(1, 1, 1, 1));
        Check.isWrong("a ninth village with wrong houses", p, () -> p.village(0, 1, 1, 1));
        Check.is("eight villages", p.land(3), 8);
        Check.is("houses of all", p.land(13), 97);
    }

    private static void clear() {
        Publicanry p = new Publicanry();
        p.village(1, 450, 0, 1);
        Check.is("clear 1", p.clear(0, 1), 451);
        Check.is("clear 100", p.clear(0, 100), 551);
        Check.is("clear to 600 at most", p.clear(0, 50), 600);
        Check.is("clear, fields", p.ofVillage(0, 1), 600);
        Check.is("clear, the register stays", p.ofVillage(0, 8), 450);
        Check.isWrong("clear 0", p, () -> p.clear(0, 0));
        Check.isWrong("clear 101", p, () -> p.clear(0, 101));
        Check.noSuch("clear of village 1", p, () -> p.clear(1, 0));
        Check.noSuch("clear of village -1", p, () -> p.clear(-1, 1));
    }

    private static void survey() {
        Publicanry p = new Publicanry();
        p.village(1, 450, 0, 1);
        p.clear(0, 100);
        Check.is("survey, the register before", p.survey(0), 450);
        Check.is("survey, the register then", p.ofVillage(0, 8), 550);
        Check.is("survey again", p.survey(0), 550);
        Check.is("survey with an empty treasury", p.land(6), 0);
        Check.noSuch("survey of village 1", p, () -> p.survey(1));
        Check.noSuch("survey of village -1", p, () -> p.survey(-1));
    }

    private static void surveyCosts() {
        Publicanry p = Made.rich();
        p.village(1, 99, 0, 1);
        Made.lease(p, 0, Made.TENTH, 1, 1, 20);
        Check.is("treasury ahead of a survey", p.land(6), 20);
        p.survey(1);
        Check.is("a survey of 99 costs 3", p.land(6), 17);
        p.clear(1, 1);
        p.survey(1);
        Check.is("a survey of 100 costs 4", p.land(6), 13);
        Check.is("it goes to the world", p.land(8), -396 + 7);
        p.survey(0);
        Check.is("a survey takes what is there alone", p.land(6), 0);
        Check.is("the world has no more of it", p.land(8), -396 + 20);
    }

    private static void war() {
        Publicanry p = new Publicanry();
        p.village(9, 10, 0, 1);
        p.village(9, 10, 0, 1);
        p.village(9, 10, 0, 1);
        Check.is("a war on none", p.war(0), 0);
        Check.is("a war on two", p.war(5), 2);
        Check.is("those burnt before count", p.war(2), 3);
        Check.is("burnt is told", p.ofVillage(1, 11), 1);
        Check.isWrong("a war below 0", p, () -> p.war(-1));
        Check.isWrong("a war on one that is not there", p, () -> p.war(8));
        Check.isWrong("a war on the greatest number", p, () -> p.war(Integer.MAX_VALUE));
        Check.isWrong("a war on the least number", p, () -> p.war(Integer.MIN_VALUE));
        p.pass(3);
        Check.is("burnt in winter still", p.ofVillage(1, 11), 1);
        p.pass(1);
        Check.is("not burnt in the next spring", p.ofVillage(1, 11), 0);
        Check.is("a war in that spring", p.war(1), 1);
    }

    private static void harvest() {
        Publicanry p = new Publicanry();
        p.village(1, 7, 0, 3);
        p.village(1, 600, 0, 9);
        Check.isText("the product first", Check.row(p.harvest(0, 0), p.harvest(0, 5), p.harvest(0, 10)), "0 2 4");
        Check.isText("the most", Check.row(p.harvest(1, 0), p.harvest(1, 5), p.harvest(1, 10)), "180 630 1080");
        p.war(3);
        Check.isText("half of it, if burnt", Check.row(p.harvest(0, 7), p.harvest(1, 5)), "1 315");
        p.clear(0, 53);
        Check.is("cleared land counts", p.harvest(0, 10), 18);
        Check.isWrong("sky -1", p, () -> p.harvest(0, -1));
        Check.isWrong("sky 11", p, () -> p.harvest(0, 11));
        Check.noSuch("harvest of village 2", p, () -> p.harvest(2, 11));
        Check.noSuch("harvest of village -1", p, () -> p.harvest(-1, 0));
        Check.is("nothing is brought in by that", p.ofVillage(1, 4), 4);
    }

    private static void harvestComes() {
        Publicanry p = new Publicanry();
        p.village(10, 600, 100, 9);
        p.village(10, 7, 595, 9);
        p.village(10, 0, 9, 9);
        p.war(2);
        Check.is("no yield in spring", p.ofVillage(0, 9), 0);
        p.pass(1);
        Check.isText("yields", Check.row(p.ofVillage(0, 9), p.ofVillage(1, 9), p.ofVillage(2, 9)), "630 3 0");
        Check.isText("grain", Check.row(p.ofVillage(0, 4), p.ofVillage(1, 4), p.ofVillage(2, 4)), "660 33 30");
        Check.isText("herds", Check.row(p.ofVillage(0, 2), p.ofVillage(1, 2), p.ofVillage(2, 2)), "110 600 9");
        p.war(1);
        Check.is("a war behind the harvest", p.ofVillage(0, 9), 630);
        p.pass(2);
        Check.is("the yield in winter", p.ofVillage(0, 9), 630);
        p.pass(1);
        Check.is("the yield in the next spring", p.ofVillage(0, 9), 0);
        p.pass(1);
        Check.is("with the sky of the next year", p.ofVillage(0, 9), 720);
    }

    private static void selling() {
        Publicanry p = Made.rich();
        Made.lease(p, 0, Made.HEARTH, 1, 1, 4);
        p.force(0, 2);
        p.pass(2);
        Check.is("grain in autumn", p.ofVillage(0, 4), 650);
        Check.is("debt in autumn", p.ofVillage(0, 6), 22);
        p.pass(1);
        Check.is("grain above 6 for each house is sold", p.ofVillage(0, 4), 60);
        Check.is("for 2 each, and debt is paid back", p.ofVillage(0, 5), 580 * 2 - 22);
        Check.is("no debt then", p.ofVillage(0, 6), 0);
        Check.is("of the world", p.land(8), -396 - 22 - 1160 + 22);
        Publicanry q = new Publicanry();
        q.village(50, 100, 0, 9);
        q.pass(3);
        Check.isText("nothing to sell", Check.row(q.ofVillage(0, 4), q.ofVillage(0, 5)), Check.row(200 + 105 - 150, 0));
    }
}
