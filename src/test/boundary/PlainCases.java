/** Plain cases of the sentences that tell no boundary: what each promise says first, and what the terms say. */
final class PlainCases {
    private PlainCases() {
    }

    /** Three elements, of which 0 and 2 cover 0, 1 and 1, 2, with edges of 3 and 7 from 1, and weights 5, -4, 2. */
    private static Submodulary plain() {
        Submodulary x = Due.fresh(3);
        int[][] covered = {{0, 0}, {0, 1}, {2, 1}, {2, 2}};
        for (int[] each : covered) {
            x.cover(each[0], each[1], true);
        }
        x.edge(0, 1, 3);
        x.edge(2, 1, 7);
        x.weigh(0, 5);
        x.weigh(1, -4);
        x.weigh(2, 2);
        return x;
    }

    /** As told above, with the coverage as function 0, the cut as 1 and the weights as 2. */
    private static Submodulary made() {
        Submodulary x = plain();
        x.make(Submodulary.COVER);
        x.make(Submodulary.CUT);
        x.make(Submodulary.WEIGHTS);
        return x;
    }

    // ---- the terms

    @Sentence(promise = 1, says = "`NONE = -1`: There is none.")
    static void none() {
        Due.due("NONE", Submodulary.NONE, -1);
    }

    @Sentence(promise = 8, says = "`COVER = 0, CUT = 1, RANK_ONE = 2, RANK_TWO = 3, WEIGHTS = 4`: Kinds of functions.")
    static void kinds() {
        Due.due("COVER", Submodulary.COVER, 0);
        Due.due("CUT", Submodulary.CUT, 1);
        Due.due("RANK_ONE", Submodulary.RANK_ONE, 2);
        Due.due("RANK_TWO", Submodulary.RANK_TWO, 3);
        Due.due("WEIGHTS", Submodulary.WEIGHTS, 4);
    }

    @Sentence(promise = 12, says = "there is no such element, point, family, colour or function")
    static void whatThereIsNotIsOutside() {
        Due.refused(Due.OUTSIDE, x -> x.weigh(3, 0));
        Due.refused(Due.OUTSIDE, x -> Due.one(x.cover(0, 10, true)));
        Due.refused(Due.OUTSIDE, x -> x.room(2, 0, 0));
        Due.refused(Due.OUTSIDE, x -> x.colour(0, 0, 6));
        Due.refused(Due.OUTSIDE, x -> x.room(0, 6, 0));
        Due.refused(Due.OUTSIDE, x -> x.value(4, 0));
    }

    @Sentence(promise = 12, says = "another argument is out of its range")
    static void otherArgumentsOutOfRange() {
        Due.refused(Due.ARGUMENT, x -> x.elements(7));
        Due.refused(Due.ARGUMENT, x -> x.edge(0, 1, 21));
        Due.refused(Due.ARGUMENT, x -> x.room(0, 0, 7));
        Due.refused(Due.ARGUMENT, x -> x.weigh(0, 21));
        Due.refused(Due.ARGUMENT, x -> x.make(5));
        Due.refused(Due.ARGUMENT, x -> x.cap(0, 101));
        Due.refused(Due.ARGUMENT, x -> x.value(0, 8));
        Due.refused(Due.ARGUMENT, x -> x.greedy(0, 7));
        Due.refused(Due.ARGUMENT, x -> x.best(0, 7));
    }

    @Sentence(promise = 18, says = "IllegalStateException: as the method tells.")
    static void stateAsTheMethodTells() {
        Due.refused(Due::full, Due.STATE, x -> x.make(Submodulary.COVER));
        Due.refused(Due::full, Due.STATE, x -> x.sum(0, 0));
        Due.refused(Due::full, Due.STATE, x -> x.contract(0, 0));
        Due.refused(Due::full, Due.STATE, x -> x.cap(0, 0));
        Due.refused(Due.STATE, x -> x.least(3));
        Due.refused(Due.STATE, x -> x.leastSet(3, true));
        Due.refused(Due.STATE, x -> x.leastSetAnew(3, true));
        Due.refused(Due.STATE, x -> x.order(2));
        Due.refused(Due.STATE, x -> x.corner(0, 1));
    }

    @Sentence(promise = 16, says = "All sets that have it, met, have it as well, and so have all of them together")
    static void leastSetsMetAndTogether() {
        metAndTogether(false);
    }

    @Sentence(promise = 17, says = "All sets that have it, met, have it as well, and so have all of them together")
    static void leastSetsAnewMetAndTogether() {
        metAndTogether(true);
    }

    /** Each two of the six elements are held together; the first pair lessens, the second is alike, the third adds. */
    private static void metAndTogether(boolean isAnew) {
        Submodulary x = Due.weighed(-1, -1, 2, -2, 2, -1);
        for (int one = 0; one < 6; one += 2) {
            x.edge(one, one + 1, 9);
        }
        x.make(Submodulary.CUT);
        x.sum(0, 1);
        int met = 63;
        int together = 0;
        for (int set = 0; set < 64; set++) {
            if (x.value(2, set) == -2) {
                met &= set;
                together |= set;
            }
        }
        Due.due("all met", met, 3);
        Due.due("all together", together, 15);
        Due.due("of all met", x.value(2, met), x.least(2));
        Due.due("of all together", x.value(2, together), x.least(2));
        Due.due("the least", isAnew ? x.leastSetAnew(2, false) : x.leastSet(2, false), met);
        Due.due("the greatest", isAnew ? x.leastSetAnew(2, true) : x.leastSet(2, true), together);
    }

    // ---- what is told

    @Sentence(promise = 2, says = "Begins anew with some elements.")
    static void elements() {
        Submodulary x = Due.bare();
        Due.due("elements(3)", x.elements(3), 4);
        Due.due("the last of three", x.weigh(2, 5), 0);
        Due.due("elements(2)", x.elements(2), 3);
        Due.due("elements(3) again", x.elements(3), 2);
        Due.due("the last of three anew", x.weigh(2, 5), 0);
    }

    @Sentence(promise = 3, says = "Lets an element cover a point, or not.")
    static void cover() {
        Submodulary x = plain();
        x.make(Submodulary.COVER);
        Due.values(x, 0, 0, 2, 0, 2, 2, 3, 2, 3);
        x.cover(0, 0, false);
        x.cover(1, 9, true);
        x.make(Submodulary.COVER);
        Due.values(x, 1, 0, 1, 1, 2, 2, 2, 3, 3);
    }

    @Sentence(promise = 4, says = "Tells the weight of an edge.")
    static void edge() {
        Submodulary x = plain();
        x.make(Submodulary.CUT);
        Due.values(x, 0, 0, 3, 10, 7, 7, 10, 3, 0);
        x.edge(1, 0, 1);
        x.edge(2, 0, 4);
        x.make(Submodulary.CUT);
        Due.values(x, 1, 0, 5, 8, 11, 11, 8, 5, 0);
    }

    @Sentence(promise = 5, says = "Tells the colour of an element in a family.")
    static void colour() {
        Submodulary x = plain();
        x.colour(0, 1, 2);
        x.colour(1, 0, 4);
        x.make(Submodulary.RANK_ONE);
        x.make(Submodulary.RANK_TWO);
        Due.values(x, 0, 0, 1, 1, 2, 1, 1, 2, 2);
        Due.values(x, 1, 0, 1, 1, 2, 1, 2, 1, 2);
    }

    @Sentence(promise = 6, says = "Tells the room of a colour in a family.")
    static void room() {
        Submodulary x = plain();
        x.room(0, 0, 2);
        x.room(1, 0, 0);
        x.make(Submodulary.RANK_ONE);
        x.make(Submodulary.RANK_TWO);
        Due.values(x, 0, 0, 1, 1, 2, 1, 2, 2, 2);
        Due.values(x, 1, 0, 0, 0, 0, 0, 0, 0, 0);
    }

    @Sentence(promise = 7, says = "Tells the weight of an element.")
    static void weigh() {
        Submodulary x = plain();
        x.make(Submodulary.WEIGHTS);
        Due.values(x, 0, 0, 5, -4, 1, 2, 7, -2, 3);
        x.weigh(1, 6);
        x.make(Submodulary.WEIGHTS);
        Due.values(x, 1, 0, 5, 6, 11, 2, 7, 8, 13);
    }

    // ---- functions

    @Sentence(promise = 8, says = "Makes a function.")
    static void make() {
        Submodulary x = made();
        Due.due("make", x.make(Submodulary.WEIGHTS), 3);
        Due.values(x, 3, 0, 5, -4, 1, 2, 7, -2, 3);
        Due.values(x, 0, 0, 2, 0, 2, 2, 3, 2, 3);
    }

    @Sentence(promise = 11, says = "Makes a function capped by a number.")
    static void cap() {
        Submodulary x = made();
        Due.due("cap(2, 2)", x.cap(2, 2), 3);
        Due.values(x, 3, 0, 2, -4, 1, 2, 2, -2, 2);
        Due.values(x, 2, 0, 5, -4, 1, 2, 7, -2, 3);
    }

    @Sentence(promise = 12, says = "Returns the value of a set.")
    static void value() {
        Submodulary x = made();
        Due.due("value(0, 5)", x.value(0, 5), 3);
        Due.due("value(1, 3)", x.value(1, 3), 7);
        Due.due("value(2, 6)", x.value(2, 6), -2);
    }

    @Sentence(promise = 13, says = "Returns whether a function has the law.")
    static void isLawful() {
        Submodulary x = made();
        Due.due("of the coverage", x.isLawful(0), true);
        Due.due("of the cut", x.isLawful(1), true);
        Due.due("of the weights", x.isLawful(2), true);
        Due.due("of the weights capped by 2", x.isLawful(x.cap(2, 2)), false);
    }

    @Sentence(promise = 14, says = "Returns whether a function rises.")
    static void rises() {
        Submodulary x = made();
        Due.due("the coverage", x.rises(0), true);
        Due.due("the cut", x.rises(1), false);
        Due.due("the weights", x.rises(2), false);
    }

    // ---- corners, greed, shares

    @Sentence(promise = 19, says = "Returns what an element has by the corner of a function.")
    static void corner() {
        Submodulary x = made();
        x.order(2);
        x.order(0);
        x.order(1);
        int[] want = {3, -10, 7};
        for (int element = 0; element < 3; element++) {
            Due.due("corner(1, " + element + ")", x.corner(1, element), want[element]);
        }
    }

    @Sentence(promise = 20, says = "Returns the set that greed takes.")
    static void greedy() {
        Submodulary x = made();
        Due.due("of the coverage", x.greedy(0, 3), 5);
        Due.due("of the coverage, one", x.greedy(0, 1), 1);
        Due.due("of the cut", x.greedy(1, 3), 2);
        Due.due("of the weights", x.greedy(2, 3), 5);
    }

    @Sentence(promise = 24, says = "Returns the share of an element, found by sets.")
    static void share() {
        sharesOfTheCoverage(false);
    }

    @Sentence(promise = 25, says = "Returns the same, found by all orders.")
    static void shareAnew() {
        sharesOfTheCoverage(true);
    }

    /** In three of the six orders 0 stands ahead of 2, and has the point of both. */
    private static void sharesOfTheCoverage(boolean isAnew) {
        Submodulary x = made();
        int[] want = {3 * 2 + 3, 0, 3 * 2 + 3};
        for (int element = 0; element < 3; element++) {
            Due.due("of " + element, isAnew ? x.shareAnew(0, element) : x.share(0, element), want[element]);
        }
    }
}
