import java.util.ArrayList;
import java.util.List;
import java.util.function.IntFunction;
import java.util.function.Supplier;

/** What the tests of boundary cases share: states to begin with, and the comparing of what is answered and refused. */
final class Due {
    static final Class<?> OUTSIDE = IndexOutOfBoundsException.class;
    static final Class<?> ARGUMENT = IllegalArgumentException.class;
    static final Class<?> STATE = IllegalStateException.class;

    /** Far numbers, and among them those that shifts by them, or products with 6 or 64, would wrap to small ones. */
    private static final int[] FAR = {
        Integer.MIN_VALUE, Integer.MIN_VALUE + 1, -715827882, -256, -64, -32, 32, 64, 256,
        1 << 26, 715827883, 1 << 30, Integer.MAX_VALUE - 1, Integer.MAX_VALUE,
    };

    private static final List<String> WRONG = new ArrayList<>();

    private Due() {
    }

    interface Call {
        int on(Submodulary x);
    }

    interface CallOf {
        int on(Submodulary x, int number);
    }

    // ---- comparing

    static void due(String what, int got, int want) {
        if (got != want) {
            WRONG.add(what + " answered " + got + ", due is " + want);
        }
    }

    static void due(String what, boolean got, boolean want) {
        if (got != want) {
            WRONG.add(what + " answered " + got + ", due is " + want);
        }
    }

    static void values(Submodulary x, int function, int... want) {
        for (int set = 0; set < want.length; set++) {
            due("value(" + function + ", " + set + ")", x.value(function, set), want[set]);
        }
    }

    /** The call is refused as due, and what can be read afterwards is what could be read without it. */
    static void refused(Supplier<Submodulary> state, Class<?> want, Call call) {
        Submodulary asked = state.get();
        String answer = answer(asked, call);
        if (!answer.equals(want.getSimpleName())) {
            WRONG.add("answered " + answer + ", due is " + want.getSimpleName());
            return;
        }
        String left = looks(asked);
        String kept = looks(state.get());
        if (!left.equals(kept)) {
            WRONG.add("the refused call changed something: it was " + kept + ", it is " + left);
        }
    }

    static void refused(Class<?> want, Call call) {
        refused(Due::told, want, call);
    }

    /** Each number far from the range is refused. */
    static void farRefused(Class<?> want, int low, int high, CallOf call) {
        for (int far : FAR) {
            if (far < low || far > high) {
                refused(want, x -> call.on(x, far));
            }
        }
    }

    /** With each number of elements, the element behind the last one is refused. */
    static void elementBehindLastRefused(CallOf call) {
        for (int many = 1; many <= 6; many++) {
            int behind = many;
            refused(() -> lessened(behind), OUTSIDE, x -> call.on(x, behind));
        }
    }

    /** With each number of elements, the last one is right. */
    static void lastElementAnswers(IntFunction<Integer> want, CallOf call) {
        for (int many = 1; many <= 6; many++) {
            due("the last of " + many, call.on(lessened(many), many - 1), want.apply(many - 1));
        }
    }

    static String answer(Submodulary x, Call call) {
        try {
            return Integer.toString(call.on(x));
        } catch (RuntimeException thrown) {
            return thrown.getClass().getSimpleName();
        }
    }

    /** What came out wrong since this was asked last. */
    static List<String> wrongSinceLast() {
        List<String> found = new ArrayList<>(WRONG);
        WRONG.clear();
        return found;
    }

    static int one(boolean is) {
        return is ? 1 : 0;
    }

    // ---- states to begin with

    static Submodulary bare() {
        return new Submodulary();
    }

    static Submodulary fresh(int many) {
        Submodulary x = new Submodulary();
        x.elements(many);
        return x;
    }

    /** Function 0 is the one of the weights. */
    static Submodulary weighed(int... weights) {
        Submodulary x = fresh(weights.length);
        for (int element = 0; element < weights.length; element++) {
            x.weigh(element, weights[element]);
        }
        x.make(Submodulary.WEIGHTS);
        return x;
    }

    /** So many elements, weights 1, 2, 3 .. and function 0 of these, where there were six elements ahead of it. */
    static Submodulary lessened(int many) {
        Submodulary x = weighed(20, 20, 20, 20, 20, 20);
        for (int element = 0; element < 6; element++) {
            x.order(element);
        }
        x.elements(many);
        for (int element = 0; element < many; element++) {
            x.weigh(element, element + 1);
            x.order(element);
        }
        x.make(Submodulary.WEIGHTS);
        return x;
    }

    /** Three elements, all told otherwise than at first; functions 0 to 3, the last without the law; 2 and 0 in order. */
    static Submodulary told() {
        Submodulary x = fresh(3);
        int[][] covered = {{0, 0}, {0, 9}, {1, 0}, {1, 4}, {2, 5}};
        for (int[] each : covered) {
            x.cover(each[0], each[1], true);
        }
        x.edge(0, 1, 3);
        x.edge(0, 2, 20);
        x.edge(1, 2, 7);
        for (int element = 0; element < 3; element++) {
            x.colour(0, element, 5 - element);
            x.colour(1, element, element + 1);
        }
        for (int colour = 0; colour < 6; colour++) {
            x.room(0, colour, colour);
            x.room(1, colour, 6 - colour);
        }
        x.weigh(0, -20);
        x.weigh(1, 20);
        x.weigh(2, 3);
        x.make(Submodulary.CUT);
        x.make(Submodulary.COVER);
        x.make(Submodulary.WEIGHTS);
        x.cap(2, 1);
        x.order(2);
        x.order(0);
        return x;
    }

    /** As told, with all three elements in order. */
    static Submodulary ordered() {
        Submodulary x = told();
        x.order(1);
        return x;
    }

    /** As told, with eight functions. */
    static Submodulary full() {
        Submodulary x = told();
        x.make(Submodulary.RANK_ONE);
        x.make(Submodulary.RANK_TWO);
        x.sum(0, 2);
        x.contract(0, 1);
        return x;
    }

    /** Three elements as many as before, when there were functions 0 to 3, the last without the law; 2 and 0 in order. */
    static Submodulary over() {
        Submodulary x = told();
        x.elements(3);
        x.order(2);
        x.order(0);
        return x;
    }

    /** Six elements; function 2 has these weights, and the functions on both sides of it have no law and fall far. */
    static Submodulary between(int... weights) {
        Submodulary x = weighed(-20, -20, -20, -20, -20, 20);
        x.cap(0, 0);
        for (int element = 0; element < 6; element++) {
            x.weigh(element, weights[element]);
        }
        x.make(Submodulary.WEIGHTS);
        x.cap(0, 0);
        return x;
    }

    // ---- what can be read

    /** All that can be read of up to four elements and sets of three; the object is of no use afterwards. */
    static String looks(Submodulary x) {
        StringBuilder seen = new StringBuilder();
        for (int function = 0; function < 8; function++) {
            for (int set = 0; set < 8; set++) {
                see(seen, x, function, set, Submodulary::value);
            }
        }
        for (int element = 0; element < 4; element++) {
            see(seen, x, 0, element, Submodulary::corner);
        }
        for (int element = 0; element < 4; element++) {
            see(seen, x, element, 0, (y, next, none) -> y.order(next));
        }
        seeTold(seen, x);
        see(seen, x, 0, 0, (y, kind, none) -> y.make(kind));
        see(seen, x, 1, 0, (y, many, none) -> y.elements(many));
        return seen.toString();
    }

    private static void seeTold(StringBuilder seen, Submodulary x) {
        for (int element = 0; element < 4; element++) {
            for (int point = 0; point < 10; point++) {
                see(seen, x, element, point, (y, a, b) -> one(y.cover(a, b, false)));
            }
            for (int other = element + 1; other < 4; other++) {
                see(seen, x, element, other, (y, a, b) -> y.edge(a, b, 0));
            }
            see(seen, x, 0, element, (y, a, b) -> y.colour(a, b, 0));
            see(seen, x, 1, element, (y, a, b) -> y.colour(a, b, 0));
            see(seen, x, element, 0, (y, a, b) -> y.weigh(a, b));
        }
        for (int colour = 0; colour < 6; colour++) {
            see(seen, x, 0, colour, (y, a, b) -> y.room(a, b, 1));
            see(seen, x, 1, colour, (y, a, b) -> y.room(a, b, 1));
        }
    }

    private interface Reading {
        int of(Submodulary x, int a, int b);
    }

    private static void see(StringBuilder seen, Submodulary x, int a, int b, Reading reading) {
        seen.append(answer(x, y -> reading.of(y, a, b))).append(' ');
    }
}
