/**
 * Long runs of calls with right and wrong arguments: nothing is thrown but what the face names, what throws changes
 * nothing, what asks changes nothing, all stays sound, and the same calls answer the same.
 */
final class AnyCallsTest {
    private static final int KINDS = 42;
    private static final int ASKING = 25;

    private long seed;

    private AnyCallsTest(long seed) {
        this.seed = seed;
    }

    static void run() {
        int wrong = 0;
        for (int k = 0; k < 400 && wrong < 5; k++) {
            long first = new AnyCallsTest(k).play();
            long second = new AnyCallsTest(k).play();
            if (first != second) {
                wrong++;
                Check.is("the same calls answer the same, run " + k, first, second);
            }
        }
        Check.is("runs that differ", wrong, 0);
    }

    private int next(int bound) {
        seed = seed * 6364136223846793005L + 1442695040888963407L;
        return (int) ((seed >>> 33) % bound);
    }

    /** Mostly a number that is there, now and then one out of all bounds. */
    private int any(int bound) {
        int kind = next(40);
        if (kind == 0) {
            return -1 - next(3);
        }
        if (kind == 1) {
            return next(2) == 0 ? Integer.MAX_VALUE : Integer.MIN_VALUE;
        }
        return next(bound);
    }

    private long play() {
        Publicanry p = new Publicanry();
        for (int k = 0; k < 3; k++) {
            p.village(1 + next(90), next(601), next(601), 1 + next(9));
            p.company(next(2001), next(3));
            p.join(k, 1 + next(99));
        }
        long all = 0;
        for (int k = 0; k < 150; k++) {
            long before = p.digest();
            int kind = next(KINDS);
            boolean isThrown = false;
            try {
                all = all * 31 + (kind < ASKING ? tell(p, kind) : ask(p, kind));
            } catch (IllegalArgumentException | IllegalStateException thrown) {
                isThrown = true;
            } catch (IndexOutOfBoundsException thrown) {
                isThrown = true;
                Check.is("an index that the machine refused", thrown.getClass() != IndexOutOfBoundsException.class, false);
            }
            if (isThrown || kind >= ASKING) {
                Check.is("what throws or asks changes nothing, kind " + kind, p.digest(), before);
            }
            Check.is("sound behind kind " + kind, p.isSound(), true);
            all = all * 31 + p.digest();
        }
        return all;
    }

    private long tell(Publicanry p, int kind) {
        switch (kind) {
            case 0: return p.village(any(91), any(601), any(601), any(10));
            case 1: return p.clear(any(5), any(101));
            case 2: return p.survey(any(5));
            case 3: return p.war(any(9));
            case 4: return p.edict(any(3), any(12), any(16));
            case 5: return p.cut(any(5));
            case 6: return p.company(any(2001), any(4));
            case 7: return p.join(any(4), any(100));
            case 8: return p.shareOut(any(3), any(200));
            case 9: return p.ring(any(4), any(4));
            case 10: return p.lot(any(3), any(8), any(6), any(100));
            case 11: return p.bid(any(4), any(4), any(600));
            case 12: return p.award(any(4));
            case 13: return p.force(any(4), any(4));
            case 14: return p.letOn(any(4), any(4), any(200));
            case 15: return p.deliver(any(4), any(60));
            case 16: return p.sue(any(4), any(3));
            case 17: return p.bench(any(8));
            case 18: return p.gift(any(4), any(70));
            case 19: return p.quarter(any(4));
            case 20: return p.remit(any(4));
            case 21: return p.recall();
            case 22: return p.clerks(any(3), next(2) == 0) ? 1 : 0;
            case 23: return p.call();
            default: return p.pass(any(4));
        }
    }

    private long ask(Publicanry p, int kind) {
        switch (kind) {
            case 25: return p.ofVillage(any(4), any(15));
            case 26: return p.due(any(4), any(3), next(2) == 0);
            case 27: return p.levy(any(4), any(3), any(7));
            case 28: return p.law(any(3), any(6));
            case 29: return p.ofCompany(any(4), any(14));
            case 30: return p.partner(any(4), any(5), next(2) == 0);
            case 31: return p.ofLot(any(4), any(13));
            case 32: return p.land(any(18));
            case 33: return p.tell(any(4)).length();
            case 34: return (long) (1000 * p.gain(any(4)));
            case 35: return p.wouldBring(any(4), any(5));
            case 36: return p.bestForce(any(4));
            case 37: return p.votes(any(4), any(3), any(300), any(8));
            case 38: return p.harvest(any(4), any(12));
            case 39: return p.direct(any(4));
            case 40: return p.wouldWin(any(4));
            default: return p.isSound() ? 1 : 0;
        }
    }
}
