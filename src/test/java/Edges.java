import java.util.function.Supplier;

/** Tries a call with the least and the greatest number that is allowed, and with those beyond. */
final class Edges {
    private Edges() {
    }

    /** A call of which one number is left open. */
    interface Call {
        void with(Publicanry p, int number);
    }

    /** The number of something of which there are so many: 0 to many - 1. */
    static void index(String what, Supplier<Publicanry> made, int many, Call call) {
        for (int number : new int[] {0, many - 1}) {
            done(what, made.get(), number, call);
        }
        for (int number : new int[] {-1, many, Integer.MIN_VALUE, Integer.MAX_VALUE}) {
            Publicanry p = made.get();
            Check.noSuch(what + " " + number, p, () -> call.with(p, number));
        }
    }

    static void bounds(String what, Supplier<Publicanry> made, int least, int most, Call call) {
        for (int number : new int[] {least, most}) {
            done(what, made.get(), number, call);
        }
        wrong(what, made, call, least - 1, most + 1, Integer.MIN_VALUE, Integer.MAX_VALUE);
    }

    static void wrong(String what, Supplier<Publicanry> made, Call call, int... numbers) {
        for (int number : numbers) {
            Publicanry p = made.get();
            Check.isWrong(what + " " + number, p, () -> call.with(p, number));
        }
    }

    private static void done(String what, Publicanry p, int number, Call call) {
        Check.isDone(what + " " + number, () -> call.with(p, number));
    }
}
