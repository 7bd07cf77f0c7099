import java.lang.reflect.Array;
import java.lang.reflect.Field;

/**
 * Sentences that no run of calls can show, since a call never brings the object there: what isSound() answers with
 * false (promise 43), and the HOLD of HIDDEN to 0 and 12 (section 5). The state is set from outside here.
 */
final class UnreachedTest {
    private UnreachedTest() {
    }

    static void run() throws Exception {
        asMadeItIsSound();
        chestsTogether();
        chestsBelowNothing();
        pledgedAboveLand();
        villageInTwoLots();
        leasedToOneThatIsBanned();
        digestOfOneThatIsNotSound();
        hiddenIsHeldToTwelve();
        hiddenIsHeldToNothing();
    }

    private static Field field(Object of, String name) throws Exception {
        Field field = of.getClass().getDeclaredField(name);
        field.setAccessible(true);
        return field;
    }

    private static Object in(Object of, String name) throws Exception {
        return field(of, name).get(of);
    }

    private static Object in(Object of, String name, int number) throws Exception {
        return Array.get(in(of, name), number);
    }

    private static void put(Object of, String name, Object value) throws Exception {
        field(of, name).set(of, value);
    }

    private static void move(Object from, Object to, int coins) throws Exception {
        put(from, "coins", (Integer) in(from, "coins") - coins);
        put(to, "coins", (Integer) in(to, "coins") + coins);
    }

    /** Lot 0 (the tenth) is leased for 20 to company 0, lot 1 (hearths) is offered, both of both villages. */
    private static Publicanry made() {
        Publicanry p = Made.two();
        p.bid(0, 0, 20);
        p.award(0);
        return p;
    }

    private static void asMadeItIsSound() {
        Check.is("as it is made", made().isSound(), true);
    }

    private static Object[] chests(Publicanry p) throws Exception {
        return new Object[] {in(p, "treasury"), in(p, "governor"), in(in(p, "villages", 1), "chest"),
            in(in(p, "companies", 1), "chest")};
    }

    private static void chestsTogether() throws Exception {
        for (int k = 0; k < 4; k++) {
            for (int more : new int[] {1, -1}) {
                Publicanry p = made();
                Object chest = chests(p)[k];
                move(in(p, "world"), chest, 5);
                Check.is("a chest has more by the world, chest " + k, p.isSound(), true);
                put(chest, "coins", (Integer) in(chest, "coins") + more);
                Check.is("all together are not 0 by chest " + k, p.isSound(), false);
            }
        }
        Publicanry q = made();
        put(in(q, "world"), "coins", (Integer) in(in(q, "world"), "coins") + 1);
        Check.is("all together are not 0 by the world", q.isSound(), false);
    }

    private static void chestsBelowNothing() throws Exception {
        for (int k = 0; k < 4; k++) {
            Publicanry p = made();
            Object chest = chests(p)[k];
            move(chest, in(p, "world"), (Integer) in(chest, "coins"));
            Check.is("an empty chest " + k, p.isSound(), true);
            move(chest, in(p, "world"), 1);
            Check.is("below 0 is chest " + k, p.isSound(), false);
        }
        Check.is("the world is below 0", made().land(8) < 0 && made().isSound(), true);
    }

    private static void pledgedAboveLand() throws Exception {
        for (int company = 0; company < 2; company++) {
            Publicanry p = Made.two();
            p.bid(company, 0, 20);
            p.award(0);
            put(in(p, "companies", company), "land", 5);
            Check.is("as much as is pledged by " + company, p.isSound(), true);
            put(in(p, "companies", company), "land", 4);
            Check.is("less than is pledged by " + company, p.isSound(), false);
        }
    }

    private static void villageInTwoLots() throws Exception {
        boolean[] isOpen = {true, true, false, false};
        for (int first = 0; first < 4; first++) {
            for (int second = 0; second < 4; second++) {
                Publicanry p = made();
                put(in(p, "lots", 0), "standing", first);
                put(in(p, "lots", 1), "standing", second);
                put(in(p, "lots", 1), "company", in(p, "companies", 1));
                Check.is("two duties, " + first + " and " + second, p.isSound(), true);
                put(in(p, "lots", 1), "duty", Made.TENTH);
                Check.is("one duty, " + first + " and " + second, p.isSound(), !isOpen[first] || !isOpen[second]);
                put(in(p, "lots", 1), "set", 2);
                Check.is("one village, " + first + " and " + second, p.isSound(), !isOpen[first] || !isOpen[second]);
                put(in(p, "lots", 0), "set", 1);
                Check.is("no village, " + first + " and " + second, p.isSound(), true);
            }
        }
    }

    private static void leasedToOneThatIsBanned() throws Exception {
        Publicanry p = made();
        put(in(p, "companies", 1), "isBanned", true);
        Check.is("another one is banned", p.isSound(), true);
        put(in(p, "companies", 0), "isBanned", true);
        Check.is("who has the lot is banned", p.isSound(), false);
        put(in(p, "lots", 0), "standing", 2);
        Check.is("who had the lot is banned", p.isSound(), true);
        Publicanry q = made();
        put(in(q, "lots", 0), "company", null);
        Check.is("leased to none", q.isSound(), false);
    }

    private static void digestOfOneThatIsNotSound() throws Exception {
        Publicanry p = made();
        put(in(p, "companies", 0), "isBanned", true);
        Check.is("not sound", p.isSound(), false);
        Check.is("its digest ends with 0", p.digest(), AskedTest.byHand(p));
    }

    /** Unrest is 20 at most, by which 11 of 16 are hidden. */
    private static void hiddenIsHeldToTwelve() throws Exception {
        int[] unrest = {20, 24, 28, 40};
        int[] sixteenths = {11, 12, 12, 12};
        for (int k = 0; k < unrest.length; k++) {
            Publicanry p = Made.two();
            p.pass(1);
            put(in(p, "villages", 0), "unrest", unrest[k]);
            put(in(p, "villages", 1), "isInRevolt", true);
            int due = p.due(0, 0, false);
            Check.is("with unrest of " + unrest[k], p.wouldBring(0, 0), 2 * (due - due * sixteenths[k] / 16));
        }
    }

    /** A force is 3 at most, by which nothing less than 0 of 16 is hidden. */
    private static void hiddenIsHeldToNothing() throws Exception {
        Publicanry p = made();
        put(in(p, "companies", 0), "forceNumber", 8);
        p.pass(2);
        Check.is("no more is paid than is asked", p.levy(0, 0, 2), p.levy(0, 0, 1));
    }
}
