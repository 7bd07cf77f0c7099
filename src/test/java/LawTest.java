/** Promises 6, 7, 28 and 30: edicts, stones, what is due. */
final class LawTest {
    private LawTest() {
    }

    static void run() {
        due();
        dueIsRoundedDown();
        edict();
        edictWrong();
        exempt();
        cut();
        cutCosts();
        law();
    }

    private static void due() {
        Publicanry p = new Publicanry();
        p.village(7, 600, 109, 9);
        Check.isText("due in spring", Check.row(p.due(0, 0, false), p.due(0, 1, false), p.due(0, 2, false)), "0 10 14");
        p.pass(1);
        Check.isText("due in summer", Check.row(p.due(0, 0, true), p.due(0, 1, true), p.due(0, 2, true)), "63 11 14");
        Check.noSuch("due of village 1", p, () -> p.due(1, 0, true));
        Check.noSuch("due of village -1", p, () -> p.due(-1, 0, true));
        Check.noSuch("due of duty 3", p, () -> p.due(0, 3, true));
        Check.noSuch("due of duty -1", p, () -> p.due(0, -1, false));
    }

    private static void dueIsRoundedDown() {
        Publicanry p = new Publicanry();
        p.village(1, 23, 99, 9);
        p.edict(0, 37, 0);
        p.edict(1, 1, 0);
        p.pass(5);
        Check.is("a yield", p.ofVillage(0, 9), 27);
        Check.isText("27 * 37 / 1000, 117 * 1 / 100", Check.row(p.due(0, 0, true), p.due(0, 1, true)), "0 1");
        p.edict(0, 38, 0);
        p.edict(1, 0, 0);
        p.pass(4);
        Check.is("a yield again", p.ofVillage(0, 9), 13);
        p.edict(0, 75, 0);
        p.pass(4);
        Check.isText("31 * 75 / 1000", Check.row(p.ofVillage(0, 9), p.due(0, 0, true)), "31 2");
    }

    private static void edict() {
        Publicanry p = new Publicanry();
        p.village(10, 600, 100, 9);
        Check.is("the number that the law will have", p.edict(0, 300, 0), 1);
        Check.is("and with a second one", p.edict(0, 200, 0), 1);
        Check.is("and of another duty", p.edict(2, 9, 0), 1);
        Check.isText("told, not law", Check.row(p.law(0, 0), p.law(0, 2), p.law(1, 2), p.law(2, 2)), "100 200 -1 9");
        p.pass(3);
        Check.is("no law till spring", p.law(0, 0), 100);
        p.pass(1);
        Check.isText("law", Check.row(p.law(0, 0), p.law(1, 0), p.law(2, 0)), "200 10 9");
        Check.isText("nothing is told", Check.row(p.law(0, 2), p.law(1, 2), p.law(2, 2)), "-1 -1 -1");
        Check.is("the number is one more", p.land(14), 1);
        Check.is("stones that tell another number", p.land(15), 1);
        p.pass(4);
        Check.is("a spring without an edict", p.land(14), 1);
        Check.is("the next one", p.edict(1, 0, 0), 2);
        p.pass(4);
        Check.isText("is law", Check.row(p.land(14), p.law(1, 0), p.law(0, 0)), "2 0 200");
    }

    private static void edictWrong() {
        Publicanry p = new Publicanry();
        Check.is("an edict without a village", p.edict(0, 0, 255), 1);
        Check.is("the highest tenth", p.edict(0, 300, 0), 1);
        Check.is("the highest pasture", p.edict(1, 60, 0), 1);
        Check.is("the highest hearth", p.edict(2, 9, 0), 1);
        Check.isWrong("tenth 301", p, () -> p.edict(0, 301, 0));
        Check.isWrong("pasture 61", p, () -> p.edict(1, 61, 0));
        Check.isWrong("hearth 10", p, () -> p.edict(2, 10, 0));
        Check.isWrong("rate -1", p, () -> p.edict(2, -1, 0));
        Check.isWrong("exempt -1", p, () -> p.edict(2, 1, -1));
        Check.isWrong("exempt 256", p, () -> p.edict(2, 1, 256));
        Check.noSuch("duty 3", p, () -> p.edict(3, 301, 0));
        Check.noSuch("duty -1", p, () -> p.edict(-1, 1, 0));
    }

    private static void exempt() {
        Publicanry p = new Publicanry();
        p.village(10, 0, 100, 9);
        p.edict(1, 20, 2);
        p.pass(4);
        Check.is("exempt by law", p.law(1, 1), 2);
        p.village(10, 0, 100, 9);
        Check.is("of 110 by the stone", p.due(0, 1, false), 11);
        Check.is("of 110 by the law", p.due(0, 1, true), 22);
        Check.isText("exempt is 0", Check.row(p.due(1, 1, false), p.due(1, 1, true)), "0 0");
        Check.is("the stone of one told later", p.ofVillage(1, 12), 1);
        p.edict(1, 20, 1);
        p.pass(4);
        Check.isText("by the stones", Check.row(p.due(0, 1, false), p.due(1, 1, false)), "12 0");
        Check.isText("by the law", Check.row(p.due(0, 1, true), p.due(1, 1, true)), "0 22");
        p.cut(0);
        p.cut(1);
        Check.isText("by new stones", Check.row(p.due(0, 1, false), p.due(1, 1, false)), "0 22");
    }

    private static void cut() {
        Publicanry p = new Publicanry();
        p.village(10, 0, 100, 9);
        p.village(10, 0, 100, 9);
        p.edict(2, 5, 0);
        Check.is("cut as the law is now", p.cut(0), 0);
        Check.is("an edict is not law yet", p.due(0, 2, false), 20);
        p.pass(4);
        Check.is("two old stones", p.land(15), 2);
        Check.is("the number before", p.cut(0), 0);
        Check.is("the number then", p.cut(0), 1);
        Check.isText("what is due by stones", Check.row(p.due(0, 2, false), p.due(1, 2, false)), "50 20");
        Check.is("one old stone", p.land(15), 1);
        Check.is("cut with an empty treasury", p.land(6), 0);
        Check.noSuch("cut of village 2", p, () -> p.cut(2));
        Check.noSuch("cut of village -1", p, () -> p.cut(-1));
    }

    private static void cutCosts() {
        Publicanry p = Made.rich();
        Made.lease(p, 0, Made.TENTH, 1, 1, 4);
        p.cut(0);
        Check.isText("a stone costs 3", Check.row(p.land(6), p.land(8)), Check.row(1, -396 + 3));
        p.cut(0);
        Check.isText("as far as it goes", Check.row(p.land(6), p.land(8)), Check.row(0, -396 + 4));
    }

    private static void law() {
        Publicanry p = new Publicanry();
        p.clerks(1, true);
        Check.isText("by clerks", Check.row(p.law(0, 3), p.law(1, 3), p.law(2, 3)), "0 1 0");
        Check.isWrong("law, what -1", p, () -> p.law(0, -1));
        Check.isWrong("law, what 5", p, () -> p.law(0, 5));
        Check.noSuch("law of duty 3", p, () -> p.law(3, 5));
        Check.noSuch("law of duty -1", p, () -> p.law(-1, 0));
    }
}
