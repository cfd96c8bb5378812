import java.util.function.IntSupplier;

/** For each promise: ordinary inputs, the edges that the document names, and wrong inputs, with answers worked by hand. */
public final class PromiseTest {
    private static final Class<?> OUTSIDE = IndexOutOfBoundsException.class;
    private static final Class<?> ARGUMENT = IllegalArgumentException.class;
    private static final Class<?> STATE = IllegalStateException.class;
    private static final int[] FAR = {Integer.MIN_VALUE, Integer.MAX_VALUE};

    private static int wrong = 0;
    private static int promise = 0;

    private static void fail(String what) {
        wrong++;
        System.out.println("promise " + promise + ": " + what);
    }

    private static void due(String what, int got, int want) {
        if (got != want) {
            fail(what + " answered " + got + ", due is " + want);
        }
    }

    private static void due(String what, boolean got, boolean want) {
        if (got != want) {
            fail(what + " answered " + got + ", due is " + want);
        }
    }

    private static void refused(String what, Class<?> want, IntSupplier call) {
        try {
            fail(what + " answered " + call.getAsInt() + ", due is " + want.getSimpleName());
        } catch (RuntimeException thrown) {
            if (thrown.getClass() != want) {
                fail(what + " threw " + thrown.getClass().getSimpleName() + ", due is " + want.getSimpleName());
            }
        }
    }

    private static int one(boolean is) {
        return is ? 1 : 0;
    }

    private static Submodulary fresh(int many) {
        Submodulary x = new Submodulary();
        x.elements(many);
        return x;
    }

    private static Submodulary weighed(int... weights) {
        Submodulary x = fresh(weights.length);
        for (int element = 0; element < weights.length; element++) {
            x.weigh(element, weights[element]);
        }
        x.make(Submodulary.WEIGHTS);
        return x;
    }

    private static void fill(Submodulary x) {
        for (int number = 0; number < 8; number++) {
            due("make", x.make(Submodulary.COVER), number);
        }
    }

    /** Function 1 lacks the law: -5 and 3 alone, but 3 of both together. */
    private static Submodulary lawless() {
        Submodulary x = weighed(-5, 10);
        x.cap(0, 3);
        return x;
    }

    private static void aNewObject() {
        promise = 1;
        due("elements after new", new Submodulary().elements(1), 4);
        Submodulary x = new Submodulary();
        due("the last element's weight", x.weigh(3, 0), 0);
        refused("weigh of a fifth", OUTSIDE, () -> x.weigh(4, 0));
        refused("value without functions", OUTSIDE, () -> x.value(0, 0));
        due("make", x.make(Submodulary.RANK_ONE), 0);
        due("rank with all alike and room 1", x.value(0, 15), 1);
        refused("corner without order", STATE, () -> x.corner(0, 0));
    }

    private static void elements() {
        promise = 2;
        Submodulary x = new Submodulary();
        due("elements(6)", x.elements(6), 4);
        due("elements(1)", x.elements(1), 6);
        due("elements(1) again", x.elements(1), 1);
        for (int many : new int[] {0, 7, -1, FAR[0], FAR[1]}) {
            refused("elements(" + many + ")", ARGUMENT, () -> x.elements(many));
        }
        due("elements after refusals", x.elements(2), 1);
        beginsAnew();
    }

    private static void beginsAnew() {
        Submodulary x = fresh(2);
        x.cover(0, 3, true);
        x.edge(0, 1, 7);
        x.colour(1, 1, 4);
        x.room(0, 2, 5);
        x.weigh(1, -9);
        x.make(Submodulary.WEIGHTS);
        x.order(0);
        refused("elements(9)", ARGUMENT, () -> x.elements(9));
        due("a value after a refusal", x.value(0, 2), -9);
        due("a corner after a refusal", x.corner(0, 0), 0);
        due("the same number", x.elements(2), 2);
        refused("value of a function that was", OUTSIDE, () -> x.value(0, 0));
        due("the cover", x.cover(0, 3, false), false);
        due("the edge", x.edge(0, 1, 0), 0);
        due("the edge, the other way", x.edge(1, 0, 0), 0);
        due("the colour", x.colour(1, 1, 0), 0);
        due("the room", x.room(0, 2, 1), 1);
        due("the weight", x.weigh(1, 0), 0);
        due("make", x.make(Submodulary.CUT), 0);
        due("the order", x.order(0), 1);
        refused("corner of one not told", STATE, () -> x.corner(0, 1));
    }

    private static void cover() {
        promise = 3;
        Submodulary x = new Submodulary();
        due("at first", x.cover(0, 0, true), false);
        due("with a point", x.cover(0, 0, true), true);
        due("another point", x.cover(0, 9, true), false);
        due("another element", x.cover(3, 0, false), false);
        due("the last of both", x.cover(3, 9, true), false);
        due("taking away", x.cover(0, 0, false), true);
        due("taken away", x.cover(0, 0, false), false);
        due("the other point still", x.cover(0, 9, true), true);
        for (int bad : new int[] {-1, 4, FAR[0], FAR[1]}) {
            refused("element " + bad, OUTSIDE, () -> one(x.cover(bad, 0, true)));
        }
        for (int bad : new int[] {-1, 10, FAR[0], FAR[1]}) {
            refused("point " + bad, OUTSIDE, () -> one(x.cover(0, bad, true)));
        }
        due("after refusals", x.cover(0, 0, false), false);
    }

    private static void edge() {
        promise = 4;
        Submodulary x = new Submodulary();
        due("at first", x.edge(0, 3, 20), 0);
        due("the other way", x.edge(3, 0, 5), 20);
        due("both ways one", x.edge(0, 3, 0), 5);
        due("another edge", x.edge(1, 2, 1), 0);
        refused("both the same", ARGUMENT, () -> x.edge(2, 2, 1));
        refused("both the same, and none", OUTSIDE, () -> x.edge(4, 4, 1));
        for (int bad : new int[] {-1, 4, FAR[0], FAR[1]}) {
            refused("element " + bad, OUTSIDE, () -> x.edge(bad, 0, 1));
            refused("other " + bad, OUTSIDE, () -> x.edge(0, bad, 99));
        }
        for (int bad : new int[] {-1, 21, FAR[0], FAR[1]}) {
            refused("weight " + bad, ARGUMENT, () -> x.edge(1, 2, bad));
        }
        due("after refusals", x.edge(2, 1, 0), 1);
        Submodulary six = fresh(6);
        due("the last two", six.edge(4, 5, 9), 0);
        due("the last two, the other way", six.edge(5, 4, 0), 9);
    }

    private static void colour() {
        promise = 5;
        Submodulary x = new Submodulary();
        due("at first", x.colour(0, 0, 5), 0);
        due("the one before", x.colour(0, 0, 2), 5);
        due("the other family", x.colour(1, 0, 1), 0);
        due("another element", x.colour(0, 3, 1), 0);
        for (int bad : new int[] {-1, 2, FAR[0], FAR[1]}) {
            refused("family " + bad, OUTSIDE, () -> x.colour(bad, 0, 0));
        }
        for (int bad : new int[] {-1, 4, FAR[0], FAR[1]}) {
            refused("element " + bad, OUTSIDE, () -> x.colour(0, bad, 0));
        }
        for (int bad : new int[] {-1, 6, FAR[0], FAR[1]}) {
            refused("colour " + bad, OUTSIDE, () -> x.colour(0, 0, bad));
        }
        due("after refusals", x.colour(0, 0, 0), 2);
        Submodulary six = fresh(6);
        due("the last element", six.colour(1, 5, 3), 0);
        due("the last element's one before", six.colour(1, 5, 0), 3);
        due("the last of the first family", six.colour(0, 5, 0), 0);
    }

    private static void room() {
        promise = 6;
        Submodulary x = fresh(1);
        due("at first", x.room(0, 5, 6), 1);
        due("the one before", x.room(0, 5, 0), 6);
        due("none", x.room(0, 5, 3), 0);
        due("the other family", x.room(1, 5, 2), 1);
        due("another colour", x.room(0, 0, 2), 1);
        for (int bad : new int[] {-1, 2, FAR[0], FAR[1]}) {
            refused("family " + bad, OUTSIDE, () -> x.room(bad, 0, 7));
        }
        for (int bad : new int[] {-1, 6, FAR[0], FAR[1]}) {
            refused("colour " + bad, OUTSIDE, () -> x.room(0, bad, -1));
        }
        for (int bad : new int[] {-1, 7, FAR[0], FAR[1]}) {
            refused("room " + bad, ARGUMENT, () -> x.room(0, 5, bad));
        }
        due("after refusals", x.room(0, 5, 1), 3);
    }

    private static void weigh() {
        promise = 7;
        Submodulary x = new Submodulary();
        due("at first", x.weigh(0, -20), 0);
        due("the one before", x.weigh(0, 20), -20);
        due("another element", x.weigh(3, 1), 0);
        for (int bad : new int[] {-1, 4, FAR[0], FAR[1]}) {
            refused("element " + bad, OUTSIDE, () -> x.weigh(bad, 21));
        }
        for (int bad : new int[] {-21, 21, FAR[0], FAR[1]}) {
            refused("weight " + bad, ARGUMENT, () -> x.weigh(0, bad));
        }
        due("after refusals", x.weigh(0, 0), 20);
    }

    private static void make() {
        promise = 8;
        makeKinds();
        Submodulary x = new Submodulary();
        for (int bad : new int[] {-1, 5, FAR[0], FAR[1]}) {
            refused("kind " + bad, ARGUMENT, () -> x.make(bad));
        }
        fill(x);
        refused("a ninth", STATE, () -> x.make(Submodulary.COVER));
        refused("a ninth of no kind", ARGUMENT, () -> x.make(5));
    }

    private static void makeKinds() {
        Submodulary x = fresh(3);
        x.cover(0, 0, true);
        x.cover(0, 9, true);
        x.cover(1, 9, true);
        x.cover(1, 4, true);
        x.edge(0, 1, 3);
        x.edge(1, 2, 20);
        x.colour(0, 2, 5);
        x.room(0, 5, 0);
        x.colour(1, 0, 1);
        x.room(1, 0, 6);
        x.room(1, 1, 0);
        x.weigh(0, -4);
        x.weigh(2, 6);
        due("COVER", x.make(0), 0);
        due("CUT", x.make(1), 1);
        due("RANK_ONE", x.make(2), 2);
        due("RANK_TWO", x.make(3), 3);
        due("WEIGHTS", x.make(4), 4);
        x.cover(0, 0, false);
        x.edge(0, 1, 0);
        x.colour(0, 2, 0);
        x.room(1, 0, 0);
        x.weigh(0, 9);
        values(x, 0, 0, 2, 2, 3, 0, 2, 2, 3);
        values(x, 1, 0, 3, 23, 20, 20, 23, 3, 0);
        values(x, 2, 0, 1, 1, 1, 0, 1, 1, 1);
        values(x, 3, 0, 0, 1, 1, 1, 1, 2, 2);
        values(x, 4, 0, -4, 0, -4, 6, 2, 6, 2);
    }

    private static void values(Submodulary x, int function, int... want) {
        for (int set = 0; set < want.length; set++) {
            due("value(" + function + ", " + set + ")", x.value(function, set), want[set]);
        }
    }

    private static void sum() {
        promise = 9;
        Submodulary x = weighed(3, -2);
        x.edge(0, 1, 10);
        x.make(Submodulary.CUT);
        due("sum", x.sum(0, 1), 2);
        values(x, 2, 0, 13, 8, 1);
        due("of the same", x.sum(2, 2), 3);
        values(x, 3, 0, 26, 16, 2);
        for (int bad : new int[] {-1, 4, FAR[0], FAR[1]}) {
            refused("function " + bad, OUTSIDE, () -> x.sum(bad, 0));
            refused("other " + bad, OUTSIDE, () -> x.sum(0, bad));
        }
        for (int number = 4; number < 8; number++) {
            due("sum", x.sum(number - 1, number - 1), number);
        }
        values(x, 7, 0, 26 * 16, 16 * 16, 2 * 16);
        refused("a ninth", STATE, () -> x.sum(0, 0));
        refused("a ninth of none", OUTSIDE, () -> x.sum(0, 8));
    }

    private static void contract() {
        promise = 10;
        Submodulary x = fresh(2);
        x.edge(0, 1, 10);
        x.weigh(1, 3);
        x.make(Submodulary.CUT);
        x.make(Submodulary.WEIGHTS);
        x.sum(0, 1);
        due("by none", x.contract(2, 0), 3);
        values(x, 3, 0, 10, 13, 3);
        due("by one", x.contract(2, 1), 4);
        values(x, 4, 0, 0, -7, -7);
        due("by all", x.contract(2, 3), 5);
        values(x, 5, 0, 0, 0, 0);
        for (int bad : new int[] {-1, 6, FAR[0], FAR[1]}) {
            refused("function " + bad, OUTSIDE, () -> x.contract(bad, 4));
        }
        for (int bad : new int[] {-1, 4, FAR[0], FAR[1]}) {
            refused("set " + bad, ARGUMENT, () -> x.contract(0, bad));
        }
        due("a seventh", x.contract(5, 1), 6);
        due("an eighth", x.contract(5, 1), 7);
        refused("a ninth", STATE, () -> x.contract(0, 0));
        refused("a ninth by no set", ARGUMENT, () -> x.contract(0, 4));
        refused("a ninth of none", OUTSIDE, () -> x.contract(8, 4));
    }

    private static void cap() {
        promise = 11;
        Submodulary x = weighed(5, -5, 20);
        due("cap", x.cap(0, 5), 1);
        values(x, 1, 0, 5, -5, 0, 5, 5, 5, 5);
        due("by nothing", x.cap(0, 0), 2);
        values(x, 2, 0, 0, -5, 0, 0, 0, 0, 0);
        due("by the most", x.cap(0, 100), 3);
        values(x, 3, 0, 5, -5, 0, 20, 25, 15, 20);
        for (int bad : new int[] {-1, 4, FAR[0], FAR[1]}) {
            refused("function " + bad, OUTSIDE, () -> x.cap(bad, 101));
        }
        for (int bad : new int[] {-1, 101, FAR[0], FAR[1]}) {
            refused("most " + bad, ARGUMENT, () -> x.cap(0, bad));
        }
        for (int number = 4; number < 8; number++) {
            due("cap", x.cap(0, 1), number);
        }
        refused("a ninth", STATE, () -> x.cap(0, 0));
        refused("a ninth by too much", ARGUMENT, () -> x.cap(0, 101));
        refused("a ninth of none", OUTSIDE, () -> x.cap(8, 101));
    }

    private static void value() {
        promise = 12;
        Submodulary x = weighed(1, 2, 4, 8, 16, 20);
        due("of none", x.value(0, 0), 0);
        due("of the last", x.value(0, 32), 20);
        due("of all", x.value(0, 63), 51);
        for (int bad : new int[] {-1, 1, FAR[0], FAR[1]}) {
            refused("function " + bad, OUTSIDE, () -> x.value(bad, 64));
        }
        for (int bad : new int[] {-1, 64, FAR[0], FAR[1]}) {
            refused("set " + bad, ARGUMENT, () -> x.value(0, bad));
        }
        Submodulary small = weighed(7);
        due("of all of one", small.value(0, 1), 7);
        refused("set of one more", ARGUMENT, () -> small.value(0, 2));
    }

    private static void isLawful() {
        promise = 13;
        Submodulary x = lawless();
        due("of weights", x.isLawful(0), true);
        due("of capped weights, one less than nothing", x.isLawful(1), false);
        for (int bad : new int[] {-1, 2, FAR[0], FAR[1]}) {
            refused("function " + bad, OUTSIDE, () -> one(x.isLawful(bad)));
        }
        due("of one element", weighed(-3).isLawful(0), true);
        Submodulary kinds = fresh(3);
        kinds.cover(0, 1, true);
        kinds.cover(1, 1, true);
        kinds.edge(0, 2, 4);
        kinds.room(0, 0, 2);
        for (int kind = 0; kind < 5; kind++) {
            due("of kind " + kind, kinds.isLawful(kinds.make(kind)), true);
        }
        due("of a sum", kinds.isLawful(kinds.sum(0, 1)), true);
        due("of a contracted one", kinds.isLawful(kinds.contract(1, 5)), true);
        due("with fewer elements than before", shrunk().isLawful(0), true);
        lawBrokenAbove();
    }

    /** The law is kept by each two elements with the empty set here, and broken with a set of one. */
    private static void lawBrokenAbove() {
        Submodulary x = weighed(-5, 10, 20);
        due("of weights capped late", x.isLawful(x.cap(0, 23)), false);
        Submodulary y = weighed(3, 3, 3);
        due("of weights capped above nothing", y.isLawful(y.cap(0, 5)), true);
    }

    private static void rises() {
        promise = 14;
        Submodulary x = weighed(0, 3, 20);
        due("of weights not less than nothing", x.rises(0), true);
        x.edge(0, 2, 1);
        due("of a cut", x.rises(x.make(Submodulary.CUT)), false);
        due("of a capped one", x.rises(x.cap(0, 2)), true);
        due("of a cut with weights", x.rises(x.sum(0, 1)), false);
        for (int bad : new int[] {-1, 4, FAR[0], FAR[1]}) {
            refused("function " + bad, OUTSIDE, () -> one(x.rises(bad)));
        }
        due("of one that lessens by the last", weighed(1, 1, 1, 1, 1, -1).rises(0), false);
        due("of one that lessens", weighed(-1).rises(0), false);
        due("of nothing", weighed(0).rises(0), true);
        Submodulary fewer = shrunk();
        fewer.weigh(1, 0);
        due("with fewer elements than before", fewer.rises(fewer.make(Submodulary.WEIGHTS)), true);
    }

    private static void least() {
        promise = 15;
        due("of weights", weighed(-3, 4, -20, 0, 1, -1).least(0), -24);
        due("of weights above nothing", weighed(3, 4).least(0), 0);
        due("with two together alone", together().least(2), -2);
        due("without the first pair", pairs(-1, 2, -3, -3).least(2), -6);
        due("with fewer elements than before", shrunk().least(0), -1);
        Submodulary x = lawless();
        due("of the lawful one", x.least(0), -5);
        refused("of the lawless one", STATE, () -> x.least(1));
        for (int bad : new int[] {-1, 2, FAR[0], FAR[1]}) {
            refused("function " + bad, OUTSIDE, () -> x.least(bad));
        }
    }

    /** Each of two elements alone is worth more than nothing, both together less: no step by one element leads there. */
    private static Submodulary together() {
        Submodulary x = fresh(3);
        x.edge(0, 1, 5);
        x.weigh(0, -1);
        x.weigh(1, -1);
        x.weigh(2, 2);
        x.make(Submodulary.CUT);
        x.make(Submodulary.WEIGHTS);
        x.sum(0, 1);
        return x;
    }

    private static void leastSets() {
        for (boolean isAnew : new boolean[] {false, true}) {
            promise = isAnew ? 17 : 16;
            leastIs(isAnew, weighed(-3, 0, -20, 0, 1, -1), 0, 37, 47);
            leastIs(isAnew, weighed(3, 4), 0, 0, 0);
            leastIs(isAnew, weighed(0, 0, 0, 0, 0, 0), 0, 0, 63);
            leastIs(isAnew, weighed(-1), 0, 1, 1);
            leastIs(isAnew, together(), 2, 3, 3);
            leastIs(isAnew, together(), 0, 0, 7);
            leastIs(isAnew, splitTwice(), 2, 0, 15);
            leastIs(isAnew, pairs(-1, 2, -3, -3), 2, 12, 12);
            leastIs(isAnew, pairs(5, -5, 1, 1), 2, 0, 3);
            leastIs(isAnew, pairs(-5, 5, 1, 1), 2, 0, 3);
            leastIs(isAnew, shrunk(), 0, 2, 2);
            Submodulary x = lawless();
            for (boolean isGreatest : new boolean[] {false, true}) {
                refused("of the lawless one", STATE, () -> leastSet(isAnew, x, 1, isGreatest));
                for (int bad : new int[] {-1, 2, FAR[0], FAR[1]}) {
                    refused("function " + bad, OUTSIDE, () -> leastSet(isAnew, x, bad, isGreatest));
                }
            }
        }
    }

    /** Two pairs, each with nothing or all of it least. */
    private static Submodulary splitTwice() {
        return pairs(-2, 2, 3, -3);
    }

    /** Weights of two pairs, each held together by an edge of 5. */
    private static Submodulary pairs(int... weights) {
        Submodulary x = weighed(weights);
        x.edge(0, 1, 5);
        x.edge(2, 3, 5);
        x.make(Submodulary.CUT);
        x.sum(0, 1);
        return x;
    }

    /** A function of two elements on an object that had one of six, with great and with small values. */
    private static Submodulary shrunk() {
        Submodulary x = weighed(3, -20, 20, -20, -20, 20);
        x.elements(2);
        x.weigh(0, 1);
        x.weigh(1, -1);
        x.make(Submodulary.WEIGHTS);
        return x;
    }

    private static int leastSet(boolean isAnew, Submodulary x, int function, boolean isGreatest) {
        return isAnew ? x.leastSetAnew(function, isGreatest) : x.leastSet(function, isGreatest);
    }

    private static void leastIs(boolean isAnew, Submodulary x, int function, int least, int greatest) {
        due("the least set", leastSet(isAnew, x, function, false), least);
        due("the greatest set", leastSet(isAnew, x, function, true), greatest);
    }

    private static void order() {
        promise = 18;
        Submodulary x = fresh(3);
        due("the first", x.order(2), 1);
        refused("told already", STATE, () -> x.order(2));
        due("the second", x.order(0), 2);
        refused("told already", STATE, () -> x.order(2));
        for (int bad : new int[] {-1, 3, FAR[0], FAR[1]}) {
            refused("element " + bad, OUTSIDE, () -> x.order(bad));
        }
        due("the third", x.order(1), 3);
        refused("element 3 with all told", OUTSIDE, () -> x.order(3));
        due("anew", x.order(1), 1);
        refused("told already anew", STATE, () -> x.order(1));
        due("one of the old order", x.order(2), 2);
        Submodulary one = fresh(1);
        due("of one", one.order(0), 1);
        due("of one anew", one.order(0), 1);
    }

    private static void corner() {
        promise = 19;
        Submodulary x = together();
        x.order(1);
        due("of the first", x.corner(2, 1), 4);
        refused("of one not told", STATE, () -> x.corner(2, 0));
        x.order(2);
        x.order(0);
        due("of the first, all told", x.corner(2, 1), 4);
        due("of the second", x.corner(2, 2), 2);
        due("of the third", x.corner(2, 0), -6);
        due("of another function", x.corner(0, 0), -5);
        for (int bad : new int[] {-1, 3, FAR[0], FAR[1]}) {
            refused("function " + bad, OUTSIDE, () -> x.corner(bad, 0));
            refused("element " + bad, OUTSIDE, () -> x.corner(0, bad));
        }
        x.order(0);
        due("of the first anew", x.corner(2, 0), 4);
        refused("of one told no more", STATE, () -> x.corner(2, 1));
        Submodulary y = lawless();
        y.order(1);
        due("of one without the law", y.corner(1, 1), 3);
    }

    private static void greedy() {
        promise = 20;
        Submodulary x = weighed(2, 5, -1, 5, 0, 1);
        int[] want = {0, 2, 10, 11, 43, 43, 43};
        for (int many = 0; many <= 6; many++) {
            due("greedy(0, " + many + ")", x.greedy(0, many), want[many]);
        }
        for (int bad : new int[] {-1, 1, FAR[0], FAR[1]}) {
            refused("function " + bad, OUTSIDE, () -> x.greedy(bad, 7));
        }
        for (int bad : new int[] {-1, 7, FAR[0], FAR[1]}) {
            refused("many " + bad, ARGUMENT, () -> x.greedy(0, bad));
        }
        due("of two, six asked", weighed(1, 1).greedy(0, 6), 3);
        due("of nothing", weighed(0, 0).greedy(0, 2), 0);
        Submodulary misled = misled();
        due("misled", misled.greedy(0, 2), 3);
        due("of a lawless one", lawless().greedy(1, 2), 2);
    }

    /** The first covers most alone; the other two cover more together than it does with either. */
    private static Submodulary misled() {
        Submodulary x = fresh(3);
        for (int point = 0; point < 6; point++) {
            x.cover(point < 3 ? 1 : 2, point, true);
        }
        for (int point = 1; point < 5; point++) {
            x.cover(0, point, true);
        }
        x.make(Submodulary.COVER);
        return x;
    }

    private static void best() {
        promise = 21;
        Submodulary x = misled();
        due("best(0, 0)", x.best(0, 0), 0);
        due("best(0, 1)", x.best(0, 1), 4);
        due("best(0, 2)", x.best(0, 2), 6);
        due("best(0, 6)", x.best(0, 6), 6);
        due("of less than nothing", weighed(-1, -2).best(0, 2), 0);
        due("of all", weighed(1, 2, 3, 4, 5, 6).best(0, 6), 21);
        due("of five", weighed(1, 2, 3, 4, 5, 6).best(0, 5), 20);
        due("with fewer elements than before", shrunk().best(0, 6), 1);
        for (int bad : new int[] {-1, 1, FAR[0], FAR[1]}) {
            refused("function " + bad, OUTSIDE, () -> x.best(bad, 7));
        }
        for (int bad : new int[] {-1, 7, FAR[0], FAR[1]}) {
            refused("many " + bad, ARGUMENT, () -> x.best(0, bad));
        }
    }

    private static int common(boolean isAnew, Submodulary x) {
        return isAnew ? x.commonAnew() : x.common();
    }

    private static void commons() {
        for (boolean isAnew : new boolean[] {false, true}) {
            promise = isAnew ? 23 : 22;
            Submodulary x = new Submodulary();
            due("at first", common(isAnew, x), 1);
            x.room(0, 0, 6);
            due("with room in one family alone", common(isAnew, x), 1);
            x.room(1, 0, 3);
            due("with room in both", common(isAnew, x), 3);
            x.room(1, 0, 0);
            due("without room", common(isAnew, x), 0);
            Submodulary other = new Submodulary();
            other.room(1, 0, 6);
            due("with room in the other family alone", common(isAnew, other), 1);
            due("with a path through another", common(isAnew, pushed()), 2);
            due("with a long path", common(isAnew, chain()), 3);
            Submodulary y = fresh(6);
            y.room(0, 0, 6);
            y.room(1, 0, 6);
            due("with all", common(isAnew, y), 6);
        }
    }

    /** The first element, taken at once, has to be given up for two others. */
    private static Submodulary pushed() {
        Submodulary x = fresh(3);
        x.colour(0, 1, 0);
        x.colour(1, 1, 1);
        x.colour(0, 2, 1);
        x.colour(1, 2, 0);
        return x;
    }

    /** Taken in turn, 0 and 1 have to be given up for 2, 3 and 4. */
    private static Submodulary chain() {
        Submodulary x = fresh(5);
        int[] first = {1, 2, 1, 2, 3};
        int[] second = {1, 2, 4, 1, 2};
        for (int element = 0; element < 5; element++) {
            x.colour(0, element, first[element]);
            x.colour(1, element, second[element]);
        }
        return x;
    }

    private static int share(boolean isAnew, Submodulary x, int function, int element) {
        return isAnew ? x.shareAnew(function, element) : x.share(function, element);
    }

    private static void shares() {
        for (boolean isAnew : new boolean[] {false, true}) {
            promise = isAnew ? 25 : 24;
            Submodulary x = weighed(1, -2, 3, 0, 20, -20);
            due("of weights", share(isAnew, x, 0, 4), 20 * 720);
            due("of weights, the last", share(isAnew, x, 0, 5), -20 * 720);
            due("of one alone", share(isAnew, weighed(-7), 0, 0), -7);
            Submodulary y = misled();
            due("of one covered in part", share(isAnew, y, 0, 0), 2 * 4 + 2 + 2 + 2 * 0);
            due("of another", share(isAnew, y, 0, 1), 2 * 3 + 1 + 3 + 2 * 1);
            due("of a lawless one", share(isAnew, lawless(), 1, 0), -5 + 0);
            due("with fewer elements than before", share(isAnew, shrunk(), 0, 0), 2);
            for (int bad : new int[] {-1, 1, FAR[0], FAR[1]}) {
                refused("function " + bad, OUTSIDE, () -> share(isAnew, x, bad, 0));
            }
            for (int bad : new int[] {-1, 6, FAR[0], FAR[1]}) {
                refused("element " + bad, OUTSIDE, () -> share(isAnew, x, 0, bad));
            }
        }
    }

    public static void main(String[] arguments) {
        aNewObject();
        elements();
        cover();
        edge();
        colour();
        room();
        weigh();
        make();
        sum();
        contract();
        cap();
        value();
        isLawful();
        rises();
        least();
        leastSets();
        order();
        corner();
        greedy();
        best();
        commons();
        shares();
        System.out.println(wrong == 0 ? "all promises hold" : wrong + " answers are not as due");
        if (wrong != 0) {
            System.exit(1);
        }
    }
}
