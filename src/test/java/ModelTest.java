import java.lang.reflect.InvocationTargetException;
import java.lang.reflect.Method;
import java.lang.reflect.Modifier;
import java.util.Arrays;
import java.util.List;

/**
 * Whole lives of an object, 512 calls each, against the Model: each answer, each exception, and the digest behind each
 * call that tells something. One object is asked everything between these calls and a second one nothing, so that it
 * shows if asking, or a call that throws, leaves anything behind.
 */
final class ModelTest {
    private static final int RUNS = 300;
    private static final int CALLS = 512;
    /** The kinds of calls, by their numbers: those that tell something, then those that ask. */
    private static final String[] CALLS_OF_FACE = {"village", "clear", "survey", "war", "edict", "cut", "company", "join",
        "shareOut", "ring", "lot", "bid", "award", "force", "letOn", "deliver", "sue", "bench", "gift", "quarter", "remit",
        "recall", "clerks", "call", "pass", "ofVillage", "due", "levy", "law", "ofCompany", "partner", "ofLot", "land", "tell",
        "gain", "wouldBring", "bestForce", "votes", "harvest", "direct", "wouldWin", "isSound", "digest"};
    private static final int TELLING = 25;
    private static final int KINDS = CALLS_OF_FACE.length;
    private static final Method[] OF_CLASS = methodsOf(Publicanry.class);
    private static final Method[] OF_MODEL = methodsOf(Model.class);

    private long seed;
    private final Publicanry asked = new Publicanry();
    private final Publicanry quiet = new Publicanry();
    private final Model model = new Model();
    /** How rich the villages of this run are, and how long its companies last. */
    private final int soil;
    private final int most;

    private ModelTest(int run) {
        seed = 977 * run + 5;
        soil = 1 + run % 9;
        most = run % 3 == 0 ? 60 : run % 3 == 1 ? 400 : 2000;
    }

    static void run() {
        int wrong = 0;
        for (int k = 0; k < RUNS && wrong < 3; k++) {
            wrong += new ModelTest(k).isAsTheModel(k) ? 0 : 1;
        }
        Check.is("lives that go otherwise than the model's", wrong, 0);
    }

    private int next(int bound) {
        seed = seed * 6364136223846793005L + 1442695040888963407L;
        return (int) ((seed >>> 33) % bound);
    }

    /** Of least to most; now and then one of the edges, seldom one beyond. */
    private int from(int least, int most) {
        switch (next(48)) {
            case 0: return least - 1;
            case 1: return most + 1;
            case 2: return next(2) == 0 ? Integer.MIN_VALUE : Integer.MAX_VALUE;
            case 3: case 4: return least;
            case 5: case 6: return most;
            default: return least + next(most - least + 1);
        }
    }

    private int villageNumber() {
        return from(0, Math.max(model.land(3) - 1, 0));
    }

    private int companyNumber() {
        return from(0, Math.max(model.land(4) - 1, 0));
    }

    private int lotNumber() {
        return from(0, Math.max(model.land(5) - 1, 0));
    }

    /** Mostly one that stands so: 0 OFFERED, 1 LEASED. */
    private int lotThatIs(int standing) {
        int first = next(8);
        for (int k = 0; k < 8 && next(20) > 0; k++) {
            int lot = (first + k) % 8;
            if (lot < model.land(5) && model.ofLot(lot, 4) == standing && (standing == 1 || model.ofLot(lot, 5) > 0)) {
                return lot;
            }
        }
        return lotNumber();
    }

    /** Mostly a village and a duty with a levy that can be sued for. */
    private int[] suit() {
        int first = next(24);
        for (int k = 0; k < 24 && next(60) > 0; k++) {
            int village = (first + k) % 24 / 3;
            int duty = (first + k) % 3;
            if (village < model.land(3) && model.levy(village, duty, 0) == model.land(1) && model.levy(village, duty, 5) == 0) {
                return row(village, duty);
            }
        }
        return row(villageNumber(), duty());
    }

    private int duty() {
        return from(0, 2);
    }

    private int set() {
        return from(1, Math.max((1 << model.land(3)) - 1, 1));
    }

    private int rate(int duty) {
        return from(0, duty == 0 ? 300 : duty == 1 ? 60 : 9);
    }

    private int[] row(int... numbers) {
        return numbers;
    }

    private boolean isAsTheModel(int run) {
        for (int k = 0; k < CALLS; k++) {
            int kind = k < 12 ? (k % 3 == 0 ? 0 : k % 3 == 1 ? 6 : 7) : kindOfNext();
            int[] with = numbersOf(kind);
            String want = tried(model, kind, with);
            String got = tried(asked, kind, with);
            boolean isRight = got.equals(want);
            if (kind < TELLING && !want.startsWith("java.")) {
                isRight = isRight && tried(quiet, kind, with).equals(want) && asked.digest() == model.digest();
            }
            if (!isRight) {
                Check.isText("run " + run + ", call " + k + ", kind " + kind + " " + Arrays.toString(with), got, want);
                return false;
            }
        }
        boolean isQuietAsAsked = quiet.digest() == asked.digest();
        Check.is("run " + run + ", one that was asked nothing", isQuietAsAsked, true);
        return isQuietAsAsked;
    }

    /** More of what makes a life: partners, bids, awards, agents, suits and remissions in their time. */
    private int kindOfNext() {
        int season = model.land(0) % 4;
        switch (next(24)) {
            case 0: return 24;
            case 1: return next(3) == 0 ? 10 : 7;
            case 2: case 3: case 4: return 11;
            case 5: return next(3) == 0 ? 12 : 11;
            case 6: case 7: return season == 3 ? 20 : season == 2 ? 16 : 14;
            case 8: return season == 2 ? 16 : 18;
            case 9: return 14;
            case 10: case 11: case 12: return TELLING + next(KINDS - TELLING);
            case 13: return 13;
            default: return any();
        }
    }

    /** Any kind, but lots and seasons more seldom: of these there are few. */
    private int any() {
        int kind = next(TELLING);
        boolean isSparse = kind == 10 || kind == 12 || kind == 24;
        return isSparse && next(3) > 0 ? 7 : kind;
    }

    private int[] numbersOf(int kind) {
        int duty = duty();
        switch (kind) {
            case 0: return row(from(1, 90), from(0, 600), from(0, 600), next(4) == 0 ? from(1, 9) : soil);
            case 1: return row(villageNumber(), from(1, 100));
            case 2: case 5: case 19: case 33: return row(villageNumber());
            case 3: return row(next(3) == 0 ? set() : 0);
            case 4: return row(duty, rate(duty), next(2) == 0 ? 0 : from(0, 255));
            case 6: return row(from(0, 2000), from(0, 3));
            case 7: return row(companyNumber(), from(1, 99));
            case 8: return row(companyNumber(), from(1, 300));
            case 9: case 13: return row(companyNumber(), from(0, 3));
            case 10: return row(duty, set(), from(1, 5), next(2) == 0 ? from(0, 40) : from(0, 5000));
            case 11: return row(companyNumber(), lotNumber(), next(9) == 0 ? from(1, 9000) : from(1, most));
            case 12: return row(lotThatIs(0));
            case 14: return row(lotThatIs(1), villageNumber(), next(2) == 0 ? from(1, 999) : from(1, 30));
            case 15: case 18: return row(companyNumber(), next(2) == 0 ? from(1, 500) : from(20, 60));
            case 16: return suit();
            case 17: return row(from(0, 7));
            case 20: return row(lotThatIs(1));
            case 22: return row(duty, next(2));
            case 24: return row(next(40) == 0 ? from(1, 20) : 1);
            case 25: return row(villageNumber(), from(0, 13));
            default: return numbersToAsk(kind, duty);
        }
    }

    private int[] numbersToAsk(int kind, int duty) {
        switch (kind) {
            case 26: return row(villageNumber(), duty, next(2));
            case 27: return row(villageNumber(), duty, from(0, 5));
            case 28: return row(duty, from(0, 4));
            case 29: return row(companyNumber(), from(0, 12));
            case 30: return row(companyNumber(), from(0, 4), next(2));
            case 31: return row(lotNumber(), from(0, 11));
            case 32: return row(from(0, 16));
            case 34: return row(companyNumber());
            case 36: return row(lotNumber());
            case 40: return row(lotThatIs(0));
            case 35: return row(lotNumber(), from(0, 3));
            case 37: return row(villageNumber(), duty, next(2) == 0 ? from(0, 9999) : from(0, 60), from(0, 7));
            case 38: return row(villageNumber(), from(0, 10));
            case 39: return row(duty);
            default: return row();
        }
    }

    /** The answer, or the name of what is thrown. */
    private static String tried(Object of, int kind, int[] with) {
        Method call = of instanceof Model ? OF_MODEL[kind] : OF_CLASS[kind];
        Class<?>[] types = call.getParameterTypes();
        Object[] arguments = new Object[types.length];
        for (int k = 0; k < types.length; k++) {
            arguments[k] = types[k] == boolean.class ? (Object) (with[k] == 1) : (Object) with[k];
        }
        try {
            return "" + call.invoke(of, arguments);
        } catch (InvocationTargetException thrown) {
            Class<?> what = thrown.getCause().getClass();
            boolean isOfTheFace = Arrays.asList(call.getExceptionTypes()).contains(what) || of instanceof Model;
            return what.getName() + (isOfTheFace ? "" : ", which this call does not tell");
        } catch (IllegalAccessException hidden) {
            return "it cannot be called";
        }
    }

    /** The methods with these names: of the model those that stand for a call of the face are not private. */
    private static Method[] methodsOf(Class<?> of) {
        Method[] methods = new Method[CALLS_OF_FACE.length];
        for (Method one : of.getDeclaredMethods()) {
            int kind = List.of(CALLS_OF_FACE).indexOf(one.getName());
            if (kind >= 0 && !Modifier.isPrivate(one.getModifiers())) {
                methods[kind] = one;
            }
        }
        return methods;
    }
}
