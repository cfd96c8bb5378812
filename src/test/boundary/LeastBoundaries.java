/** Boundary cases of least values and corners: promises 15 to 19. */
final class LeastBoundaries {
    private LeastBoundaries() {
    }

    /** The promises 16 and 17, of which the second finds the same by all sets. */
    private static int leastSet(boolean isAnew, Submodulary x, int function, boolean isGreatest) {
        return isAnew ? x.leastSetAnew(function, isGreatest) : x.leastSet(function, isGreatest);
    }

    private static void leastSetsAre(boolean isAnew, Submodulary x, int function, int least, int greatest) {
        Due.due("the least set", leastSet(isAnew, x, function, false), least);
        Due.due("the greatest set", leastSet(isAnew, x, function, true), greatest);
    }

    /** Function 2: weights, and between the elements of each two an edge that holds them together. */
    private static Submodulary pairs(int... weights) {
        Submodulary x = Due.weighed(weights);
        for (int one = 0; one + 1 < weights.length; one += 2) {
            x.edge(one, one + 1, 20);
        }
        x.make(Submodulary.CUT);
        x.sum(0, 1);
        return x;
    }

    /** Function 2: weights, and edges that hold all elements together. */
    private static Submodulary ring(int... weights) {
        Submodulary x = Due.weighed(weights);
        for (int element = 0; element < weights.length; element++) {
            x.edge(element, (element + 1) % weights.length, 20);
        }
        x.make(Submodulary.CUT);
        x.sum(0, 1);
        return x;
    }

    /** Function 2: weights, and between each two elements an edge of the same weight. */
    private static Submodulary woven(int edge, int... weights) {
        Submodulary x = Due.weighed(weights);
        for (int one = 0; one < weights.length; one++) {
            for (int two = 0; two < one; two++) {
                x.edge(one, two, edge);
            }
        }
        x.make(Submodulary.CUT);
        x.sum(0, 1);
        return x;
    }

    /** Function 2: weights, and the weights of the edges of each element to those below it. */
    private static Submodulary edged(int[][] edges, int... weights) {
        Submodulary x = Due.weighed(weights);
        for (int one = 0; one < weights.length; one++) {
            for (int two = 0; two < one; two++) {
                x.edge(one, two, edges[one][two]);
            }
        }
        x.make(Submodulary.CUT);
        x.sum(0, 1);
        return x;
    }

    /** All elements together alone are least, -2; taken in turn, none but the last lessens the value. */
    private static Submodulary lateFall(boolean isAdding) {
        return isAdding ? woven(4, -19, -11, -3, 5, 13, 13) : woven(1, -5, -3, -1, 1, 3, 3);
    }

    /** Function 1 misses the law by one: -1 and 0 alone, but 0 of both together. */
    private static Submodulary lawless() {
        Submodulary x = Due.weighed(-1, 1);
        x.cap(0, 0);
        return x;
    }

    /** Where six elements had no law, two have one; the last function there was is the last one again. */
    private static Submodulary fewer() {
        Submodulary x = Due.weighed(-1, 1, -20, -20, 20, 20);
        x.cap(0, 0);
        x.elements(2);
        x.weigh(0, 2);
        x.weigh(1, -2);
        x.make(Submodulary.COVER);
        x.make(Submodulary.WEIGHTS);
        return x;
    }

    // ---- promise 15: least

    @Sentence(promise = 15, says = "Returns the least value.")
    static void leastOfTheEmptySetAlone() {
        Due.due("least", Due.weighed(1, 1, 1, 1, 1, 1).least(0), 0);
    }

    @Sentence(promise = 15, says = "Returns the least value.")
    static void leastOfAllElements() {
        Due.due("least", Due.weighed(-20, -20, -20, -20, -20, -20).least(0), -120);
    }

    @Sentence(promise = 15, says = "Returns the least value.")
    static void leastOfOneElement() {
        Due.due("least of one less", Due.weighed(-1).least(0), -1);
        Due.due("least of one alike", Due.weighed(0).least(0), 0);
        Due.due("least of one more", Due.weighed(1).least(0), 0);
    }

    @Sentence(promise = 15, says = "Returns the least value.")
    static void leastWhereNoSingleStepLessens() {
        Due.due("least", ring(-3, -2, 1, -1, 2, 2).least(2), -1);
    }

    @Sentence(promise = 15, says = "Returns the least value.")
    static void leastWhereAllTogetherAreAlike() {
        Due.due("least", ring(-3, -2, 1, -1, 3, 2).least(2), 0);
    }

    @Sentence(promise = 15, says = "Returns the least value.")
    static void leastWhereTheLastElementAloneLessens() {
        Due.due("least, the others alike", lateFall(false).least(2), -2);
        Due.due("least, the others more", lateFall(true).least(2), -2);
    }

    @Sentence(promise = 15, says = "Returns the least value.")
    static void leastOfThreePairs() {
        Due.due("of the first", pairs(-2, 1, 2, 2, 3, -2).least(2), -1);
        Due.due("of the second", pairs(2, -1, -3, 1, 3, -2).least(2), -2);
        Due.due("of the third", pairs(2, -1, 3, 1, 3, -6).least(2), -3);
    }

    @Sentence(promise = 15, says = "Returns the least value.")
    static void leastOfTheGreatestFall() {
        Submodulary x = Due.weighed(-20, -20, -20, -20, -20, -20);
        for (int number = 1; number < 8; number++) {
            x.sum(number - 1, number - 1);
        }
        Due.due("least(7)", x.least(7), -120 * 128);
    }

    @Sentence(promise = 15, says = "Throws `IllegalStateException` if the function has not the law")
    static void leastWithoutTheLawRefused() {
        Due.refused(LeastBoundaries::lawless, Due.STATE, x -> x.least(1));
        Due.refused(Due.STATE, x -> x.least(3));
    }

    @Sentence(promise = 15, says = "The least value of a function is asked of those that have the law alone.")
    static void leastWithTheLawJustHeld() {
        Submodulary x = Due.weighed(-1, 1);
        x.cap(0, 1);
        Due.due("least", x.least(1), -1);
    }

    @Sentence(promise = 15, says = "Throws `IndexOutOfBoundsException` as told")
    static void leastFunctionBelowFirstRefused() {
        Due.refused(Due.OUTSIDE, x -> x.least(-1));
    }

    @Sentence(promise = 15, says = "Throws `IndexOutOfBoundsException` as told")
    static void leastFunctionBehindLastRefused() {
        Due.refused(Due.OUTSIDE, x -> x.least(4));
        Due.refused(Due::bare, Due.OUTSIDE, x -> x.least(0));
        Due.refused(Due::full, Due.OUTSIDE, x -> x.least(8));
    }

    @Sentence(promise = 15, says = "to tell their number, also the same one, makes all functions over")
    static void leastOfFunctionsThatWereRefused() {
        Due.refused(Due::over, Due.OUTSIDE, x -> x.least(0));
        Due.refused(Due::over, Due.OUTSIDE, x -> x.least(3));
    }

    @Sentence(promise = 15, says = "Throws `IndexOutOfBoundsException` as told")
    static void leastFunctionFarRefused() {
        Due.farRefused(Due.OUTSIDE, 0, 3, Submodulary::least);
    }

    @Sentence(promise = 15, says = "Throws `IndexOutOfBoundsException` as told")
    static void leastOfTheLastFunction() {
        Due.due("least(7)", Due.full().least(7), -23);
    }

    @Sentence(promise = 15, says = "There are up to 6 elements, from 0, as many as were told last")
    static void leastOfFewerElementsThanBefore() {
        Due.due("least(1)", fewer().least(1), -2);
        Due.due("least(0)", fewer().least(0), 0);
    }

    @Sentence(promise = 15, says = "Functions are numbered from 0, at most 8")
    static void leastOfEachForItself() {
        Due.due("least(0)", Due.between(1, 1, 1, 1, 1, 1).least(0), -100);
        Due.due("least(2) of more", Due.between(1, 1, 1, 1, 1, 1).least(2), 0);
        Due.due("least(2) of less", Due.between(-1, 1, 1, 1, 1, -1).least(2), -2);
    }

    // ---- promises 16 and 17: leastSet, leastSetAnew

    @Sentence(promise = 16, says = "Returns the least, or the greatest, set that has the least value.")
    static void leastSetIsOne() {
        oneSetIsLeast(false);
    }

    @Sentence(promise = 17, says = "Returns the same, found by all sets.")
    static void leastSetAnewIsOne() {
        oneSetIsLeast(true);
    }

    private static void oneSetIsLeast(boolean isAnew) {
        leastSetsAre(isAnew, Due.weighed(1, 1, 1, 1, 1, 1), 0, 0, 0);
        leastSetsAre(isAnew, Due.weighed(-1, -1, -1, -1, -1, -1), 0, 63, 63);
        leastSetsAre(isAnew, Due.weighed(1), 0, 0, 0);
        leastSetsAre(isAnew, Due.weighed(-1), 0, 1, 1);
        for (int element = 0; element < 6; element++) {
            int[] weights = {1, 1, 1, 1, 1, 1};
            weights[element] = -1;
            leastSetsAre(isAnew, Due.weighed(weights), 0, 1 << element, 1 << element);
        }
    }

    @Sentence(promise = 16, says = "the least and the greatest such set")
    static void leastSetOfAll() {
        allSetsAreLeast(false);
    }

    @Sentence(promise = 17, says = "the least and the greatest such set")
    static void leastSetAnewOfAll() {
        allSetsAreLeast(true);
    }

    private static void allSetsAreLeast(boolean isAnew) {
        for (int many = 1; many <= 6; many++) {
            leastSetsAre(isAnew, Due.weighed(new int[many]), 0, 0, (1 << many) - 1);
        }
    }

    @Sentence(promise = 16, says = "the least and the greatest such set")
    static void leastSetOfTheEmptyAndTheWhole() {
        emptyAndWholeAreLeast(false);
    }

    @Sentence(promise = 17, says = "the least and the greatest such set")
    static void leastSetAnewOfTheEmptyAndTheWhole() {
        emptyAndWholeAreLeast(true);
    }

    private static void emptyAndWholeAreLeast(boolean isAnew) {
        leastSetsAre(isAnew, ring(0, 0, 0, 0, 0, 0), 2, 0, 63);
        leastSetsAre(isAnew, ring(-5, 5, -5, 5, -5, 5), 2, 0, 63);
        leastSetsAre(isAnew, ring(5, -5, 5, -5, 5, -5), 2, 0, 63);
        leastSetsAre(isAnew, ring(5, 5, 5, -5, -5, -5), 2, 0, 63);
        leastSetsAre(isAnew, ring(-5, -5, -5, 5, 5, 5), 2, 0, 63);
    }

    @Sentence(promise = 16, says = "Returns the least, or the greatest, set that has the least value.")
    static void leastSetWhereTheLastElementAloneLessens() {
        lastElementAloneLessens(false);
    }

    @Sentence(promise = 17, says = "Returns the same, found by all sets.")
    static void leastSetAnewWhereTheLastElementAloneLessens() {
        lastElementAloneLessens(true);
    }

    private static void lastElementAloneLessens(boolean isAnew) {
        leastSetsAre(isAnew, lateFall(false), 2, 63, 63);
        leastSetsAre(isAnew, lateFall(true), 2, 63, 63);
    }

    @Sentence(promise = 16, says = "the least and the greatest such set")
    static void leastSetOfTwoAlikeBehindThreeMore() {
        twoAlikeBehindThreeMore(false);
    }

    @Sentence(promise = 17, says = "the least and the greatest such set")
    static void leastSetAnewOfTwoAlikeBehindThreeMore() {
        twoAlikeBehindThreeMore(true);
    }

    /** The edges of 3 and 4 to the others weigh 12 each, as much as both elements take away: the two are as good as none. */
    private static void twoAlikeBehindThreeMore(boolean isAnew) {
        int[][] edges = {{}, {0}, {5, 2}, {6, 0, 3}, {4, 2, 4, 6}, {6, 5, 7, 3, 2}};
        leastSetsAre(isAnew, edged(edges, 19, 0, 6, -12, -12, 1), 2, 0, 24);
    }

    @Sentence(promise = 16, says = "the least and the greatest such set")
    static void leastSetOfTwoWhereAllAreAlike() {
        twoWhereAllAreAlike(false);
    }

    @Sentence(promise = 17, says = "the least and the greatest such set")
    static void leastSetAnewOfTwoWhereAllAreAlike() {
        twoWhereAllAreAlike(true);
    }

    /** 0 and 2 have -1, as have all four; with 1 or 3 alone beside them it is more. */
    private static void twoWhereAllAreAlike(boolean isAnew) {
        leastSetsAre(isAnew, edged(new int[][] {{}, {0}, {2, 2}, {1, 2, 0}}, -3, 3, -1, 0), 2, 5, 15);
    }

    @Sentence(promise = 16, says = "the least and the greatest such set")
    static void leastSetOfSomeLessAndSomeAlike() {
        someLessAndSomeAlike(false);
    }

    @Sentence(promise = 17, says = "the least and the greatest such set")
    static void leastSetAnewOfSomeLessAndSomeAlike() {
        someLessAndSomeAlike(true);
    }

    /** Each element, and each pair held together, is less, alike or more: in both sets, in the greatest alone, in none. */
    private static void someLessAndSomeAlike(boolean isAnew) {
        for (int kinds = 0; kinds < 729; kinds++) {
            int[] weights = new int[6];
            int least = 0;
            int greatest = 0;
            int rest = kinds;
            for (int element = 0; element < 6; element++) {
                weights[element] = rest % 3 - 1;
                least |= weights[element] < 0 ? 1 << element : 0;
                greatest |= weights[element] <= 0 ? 1 << element : 0;
                rest /= 3;
            }
            leastSetsAre(isAnew, Due.weighed(weights), 0, least, greatest);
        }
        for (int kinds = 0; kinds < 27; kinds++) {
            pairsLessAndAlike(isAnew, kinds % 3 - 1, kinds / 3 % 3 - 1, kinds / 9 - 1);
        }
    }

    private static void pairsLessAndAlike(boolean isAnew, int... gains) {
        int least = 0;
        int greatest = 0;
        for (int pair = 0; pair < 3; pair++) {
            least |= gains[pair] < 0 ? 3 << 2 * pair : 0;
            greatest |= gains[pair] <= 0 ? 3 << 2 * pair : 0;
        }
        leastSetsAre(isAnew, pairs(4 + gains[0], -4, -4, 4 + gains[1], gains[2], 0), 2, least, greatest);
    }

    @Sentence(promise = 16, says = "the least and the greatest such set")
    static void leastSetOfSetsInOneAnother() {
        setsInOneAnother(false);
    }

    @Sentence(promise = 17, says = "the least and the greatest such set")
    static void leastSetAnewOfSetsInOneAnother() {
        setsInOneAnother(true);
    }

    /** With each element in each place: the empty set, two elements and all three are least; or two and all; or two. */
    private static void setsInOneAnother(boolean isAnew) {
        for (int one = 0; one < 3; one++) {
            for (int two = 0; two < 3; two++) {
                if (one != two) {
                    int both = 1 << one | 1 << two;
                    leastSetsAre(isAnew, knotted(one, two, -5, 5), 2, 0, 7);
                    leastSetsAre(isAnew, knotted(one, two, -6, 5), 2, both, 7);
                    leastSetsAre(isAnew, knotted(one, two, -6, 6), 2, both, both);
                    leastSetsAre(isAnew, knotted(one, two, -5, 6), 2, 0, both);
                    leastSetsAre(isAnew, knotted(one, two, -5, 4), 2, 7, 7);
                    leastSetsAre(isAnew, knotted(one, two, -4, 4), 2, 0, 7);
                }
            }
        }
    }

    /** Function 2: weights of the first and the third, and edges of 5 from the first to both others. */
    private static Submodulary knotted(int one, int two, int first, int third) {
        int[] weights = new int[3];
        weights[one] = first;
        weights[3 - one - two] = third;
        Submodulary x = Due.weighed(weights);
        x.edge(one, two, 5);
        x.edge(one, 3 - one - two, 5);
        x.make(Submodulary.CUT);
        x.sum(0, 1);
        return x;
    }

    @Sentence(promise = 16, says = "Functions are numbered from 0, at most 8")
    static void leastSetOfEachForItself() {
        eachForItself(false);
    }

    @Sentence(promise = 17, says = "Functions are numbered from 0, at most 8")
    static void leastSetAnewOfEachForItself() {
        eachForItself(true);
    }

    private static void eachForItself(boolean isAnew) {
        leastSetsAre(isAnew, Due.between(1, 1, 1, 1, 1, 1), 0, 31, 31);
        leastSetsAre(isAnew, Due.between(1, 1, 1, 1, 1, 1), 2, 0, 0);
        leastSetsAre(isAnew, Due.between(-1, 1, 0, 1, 1, -1), 2, 33, 37);
    }

    @Sentence(promise = 16, says = "There are up to 6 elements, from 0, as many as were told last")
    static void leastSetOfFewerElementsThanBefore() {
        leastSetsAre(false, fewer(), 1, 2, 2);
        leastSetsAre(false, fewer(), 0, 0, 3);
    }

    @Sentence(promise = 17, says = "There are up to 6 elements, from 0, as many as were told last")
    static void leastSetAnewOfFewerElementsThanBefore() {
        leastSetsAre(true, fewer(), 1, 2, 2);
        leastSetsAre(true, fewer(), 0, 0, 3);
    }

    @Sentence(promise = 16, says = "Throws `IllegalStateException` if the function has not the law")
    static void leastSetWithoutTheLawRefused() {
        withoutTheLawRefused(false);
    }

    @Sentence(promise = 17, says = "Throws `IllegalStateException` if the function has not the law")
    static void leastSetAnewWithoutTheLawRefused() {
        withoutTheLawRefused(true);
    }

    private static void withoutTheLawRefused(boolean isAnew) {
        for (boolean isGreatest : new boolean[] {false, true}) {
            Due.refused(LeastBoundaries::lawless, Due.STATE, x -> leastSet(isAnew, x, 1, isGreatest));
            Due.refused(Due.STATE, x -> leastSet(isAnew, x, 3, isGreatest));
        }
    }

    @Sentence(promise = 16, says = "The least value of a function is asked of those that have the law alone.")
    static void leastSetWithTheLawJustHeld() {
        Submodulary x = Due.weighed(-1, 1);
        x.cap(0, 1);
        leastSetsAre(false, x, 1, 1, 1);
    }

    @Sentence(promise = 17, says = "The least value of a function is asked of those that have the law alone.")
    static void leastSetAnewWithTheLawJustHeld() {
        Submodulary x = Due.weighed(-1, 1);
        x.cap(0, 1);
        leastSetsAre(true, x, 1, 1, 1);
    }

    @Sentence(promise = 16, says = "Throws `IndexOutOfBoundsException` as told")
    static void leastSetFunctionBelowFirstRefused() {
        functionRefused(false, -1);
    }

    @Sentence(promise = 16, says = "Throws `IndexOutOfBoundsException` as told")
    static void leastSetFunctionBehindLastRefused() {
        functionRefused(false, 4);
        Due.refused(Due::bare, Due.OUTSIDE, x -> x.leastSet(0, false));
        Due.refused(Due::full, Due.OUTSIDE, x -> x.leastSet(8, true));
    }

    @Sentence(promise = 16, says = "to tell their number, also the same one, makes all functions over")
    static void leastSetOfFunctionsThatWereRefused() {
        Due.refused(Due::over, Due.OUTSIDE, x -> x.leastSet(0, true));
        Due.refused(Due::over, Due.OUTSIDE, x -> x.leastSet(3, true));
    }

    @Sentence(promise = 16, says = "Throws `IndexOutOfBoundsException` as told")
    static void leastSetFunctionFarRefused() {
        Due.farRefused(Due.OUTSIDE, 0, 3, (x, far) -> x.leastSet(far, false));
        Due.farRefused(Due.OUTSIDE, 0, 3, (x, far) -> x.leastSet(far, true));
    }

    @Sentence(promise = 17, says = "Throws `IndexOutOfBoundsException` as told")
    static void leastSetAnewFunctionBelowFirstRefused() {
        functionRefused(true, -1);
    }

    @Sentence(promise = 17, says = "Throws `IndexOutOfBoundsException` as told")
    static void leastSetAnewFunctionBehindLastRefused() {
        functionRefused(true, 4);
        Due.refused(Due::bare, Due.OUTSIDE, x -> x.leastSetAnew(0, false));
        Due.refused(Due::full, Due.OUTSIDE, x -> x.leastSetAnew(8, true));
    }

    @Sentence(promise = 17, says = "to tell their number, also the same one, makes all functions over")
    static void leastSetAnewOfFunctionsThatWereRefused() {
        Due.refused(Due::over, Due.OUTSIDE, x -> x.leastSetAnew(0, true));
        Due.refused(Due::over, Due.OUTSIDE, x -> x.leastSetAnew(3, true));
    }

    @Sentence(promise = 17, says = "Throws `IndexOutOfBoundsException` as told")
    static void leastSetAnewFunctionFarRefused() {
        Due.farRefused(Due.OUTSIDE, 0, 3, (x, far) -> x.leastSetAnew(far, false));
        Due.farRefused(Due.OUTSIDE, 0, 3, (x, far) -> x.leastSetAnew(far, true));
    }

    private static void functionRefused(boolean isAnew, int function) {
        Due.refused(Due.OUTSIDE, x -> leastSet(isAnew, x, function, false));
        Due.refused(Due.OUTSIDE, x -> leastSet(isAnew, x, function, true));
    }

    @Sentence(promise = 16, says = "Throws `IndexOutOfBoundsException` as told")
    static void leastSetOfTheLastFunction() {
        leastSetsAre(false, Due.full(), 7, 6, 7);
    }

    @Sentence(promise = 17, says = "Throws `IndexOutOfBoundsException` as told")
    static void leastSetAnewOfTheLastFunction() {
        leastSetsAre(true, Due.full(), 7, 6, 7);
    }

    // ---- promise 18: order

    @Sentence(promise = 18, says = "Returns how many are told then.")
    static void orderOfEachNumber() {
        for (int many = 1; many <= 6; many++) {
            Submodulary x = Due.fresh(many);
            for (int told = 1; told <= many; told++) {
                Due.due("order(" + (many - told) + ") of " + many, x.order(many - told), told);
            }
        }
    }

    @Sentence(promise = 18, says = "with all elements told, the order begins anew with it")
    static void orderBeginsAnewWithTheFirst() {
        Submodulary x = Due.ordered();
        Due.due("order(2)", x.order(2), 1);
        Due.due("order(0)", x.order(0), 2);
    }

    @Sentence(promise = 18, says = "with all elements told, the order begins anew with it")
    static void orderBeginsAnewWithTheLast() {
        Submodulary x = Due.ordered();
        Due.due("order(1)", x.order(1), 1);
        Due.due("order(2)", x.order(2), 2);
        Due.due("order(0)", x.order(0), 3);
        Due.due("order(0) again", x.order(0), 1);
    }

    @Sentence(promise = 18, says = "with all elements told, the order begins anew with it")
    static void orderNotAnewWithOneUntold() {
        for (int many = 2; many <= 6; many++) {
            int each = many;
            Due.refused(() -> allButTheLast(each), Due.STATE, x -> x.order(0));
            Due.refused(() -> allButTheLast(each), Due.STATE, x -> x.order(each - 2));
        }
    }

    private static Submodulary allButTheLast(int many) {
        Submodulary x = Due.fresh(many);
        for (int element = 0; element < many - 1; element++) {
            x.order(element);
        }
        return x;
    }

    @Sentence(promise = 18, says = "with all elements told, the order begins anew with it")
    static void orderOfTheOnlyOneAlwaysAnew() {
        Submodulary x = Due.fresh(1);
        for (int call = 0; call < 4; call++) {
            Due.due("order(0)", x.order(0), 1);
        }
    }

    @Sentence(promise = 18, says = "Throws `IllegalStateException` if the element is told, and others are not")
    static void orderOfTheFirstToldRefused() {
        Due.refused(Due.STATE, x -> x.order(2));
    }

    @Sentence(promise = 18, says = "Throws `IllegalStateException` if the element is told, and others are not")
    static void orderOfTheLastToldRefused() {
        Due.refused(Due.STATE, x -> x.order(0));
    }

    @Sentence(promise = 18, says = "Throws `IllegalStateException` if the element is told, and others are not")
    static void orderOfOneToldAnewRefused() {
        Due.refused(LeastBoundaries::anew, Due.STATE, x -> x.order(1));
    }

    private static Submodulary anew() {
        Submodulary x = Due.ordered();
        x.order(1);
        return x;
    }

    @Sentence(promise = 18, says = "An order is told element by element, each once.")
    static void orderOfOneToldInTheOrderBefore() {
        Due.due("order(2)", anew().order(2), 2);
        Due.due("order(0)", anew().order(0), 2);
    }

    @Sentence(promise = 18, says = "Throws `IndexOutOfBoundsException` as told")
    static void orderElementBelowFirstRefused() {
        Due.refused(Due.OUTSIDE, x -> x.order(-1));
        Due.refused(Due::bare, Due.OUTSIDE, x -> x.order(-1));
    }

    @Sentence(promise = 18, says = "Throws `IndexOutOfBoundsException` as told")
    static void orderElementBehindLastRefused() {
        Due.refused(Due.OUTSIDE, x -> x.order(3));
        Due.elementBehindLastRefused(Submodulary::order);
    }

    @Sentence(promise = 18, says = "Throws `IndexOutOfBoundsException` as told")
    static void orderElementOutsideWithAllToldRefused() {
        Due.refused(Due::ordered, Due.OUTSIDE, x -> x.order(3));
        Due.refused(Due::ordered, Due.OUTSIDE, x -> x.order(-1));
    }

    @Sentence(promise = 18, says = "Throws `IndexOutOfBoundsException` as told")
    static void orderElementFarRefused() {
        Due.farRefused(Due.OUTSIDE, 0, 2, Submodulary::order);
    }

    // ---- promise 19: corner

    @Sentence(promise = 19, says = "the value of all up to it, less that of all ahead of it")
    static void cornerOfTheFirstTold() {
        Due.due("corner(0, 2)", Due.told().corner(0, 2), 27);
        Due.due("corner(0, 2) with all told", Due.ordered().corner(0, 2), 27);
    }

    @Sentence(promise = 19, says = "the value of all up to it, less that of all ahead of it")
    static void cornerOfTheLastTold() {
        Due.due("corner(0, 0)", Due.told().corner(0, 0), -17);
        Due.due("corner(0, 1) with all told", Due.ordered().corner(0, 1), -10);
    }

    @Sentence(promise = 19, says = "the value of all up to it, less that of all ahead of it")
    static void cornerOfOneInBetween() {
        Due.due("corner(0, 0) with all told", Due.ordered().corner(0, 0), -17);
    }

    @Sentence(promise = 19, says = "the value of all up to it, less that of all ahead of it")
    static void cornerOfTheFirstToldAnew() {
        Due.due("corner(0, 1)", anew().corner(0, 1), 10);
    }

    @Sentence(promise = 19, says = "the value of all up to it, less that of all ahead of it")
    static void cornerOfTheOnlyElement() {
        Submodulary x = Due.weighed(-20);
        x.order(0);
        Due.due("corner(0, 0)", x.corner(0, 0), -20);
    }

    @Sentence(promise = 19, says = "the value of all up to it, less that of all ahead of it")
    static void cornerOfAllSix() {
        Submodulary x = Due.fresh(6);
        for (int element = 0; element < 6; element++) {
            for (int point = 0; point <= element; point++) {
                x.cover(element, point, true);
            }
        }
        x.make(Submodulary.COVER);
        int[] order = {2, 0, 4, 3, 5, 1};
        int[] want = {3, 0, 2, 0, 1, 0};
        for (int element : order) {
            x.order(element);
        }
        for (int place = 0; place < 6; place++) {
            Due.due("corner(0, " + order[place] + ")", x.corner(0, order[place]), want[place]);
        }
    }

    @Sentence(promise = 19, says = "the value of all up to it, less that of all ahead of it")
    static void cornerOfOneWithoutTheLaw() {
        Due.due("corner(3, 2)", Due.told().corner(3, 2), 1);
        Due.due("corner(3, 0)", Due.told().corner(3, 0), -18);
    }

    @Sentence(promise = 19, says = "Throws `IllegalStateException` if the element is not told")
    static void cornerOfTheUntoldRefused() {
        Due.refused(Due.STATE, x -> x.corner(0, 1));
    }

    @Sentence(promise = 19, says = "those that are not told yet have none")
    static void cornerWithoutOrderRefused() {
        Due.refused(() -> Due.weighed(1, 2, 3), Due.STATE, x -> x.corner(0, 0));
        Due.refused(() -> Due.weighed(1, 2, 3), Due.STATE, x -> x.corner(0, 2));
    }

    @Sentence(promise = 19, says = "those that are not told yet have none")
    static void cornerOfOneToldInTheOrderBeforeRefused() {
        Due.refused(LeastBoundaries::anew, Due.STATE, x -> x.corner(0, 2));
        Due.refused(LeastBoundaries::anew, Due.STATE, x -> x.corner(0, 0));
    }

    @Sentence(promise = 19, says = "Throws `IndexOutOfBoundsException` as told, of both")
    static void cornerFunctionBelowFirstRefused() {
        Due.refused(Due.OUTSIDE, x -> x.corner(-1, 2));
    }

    @Sentence(promise = 19, says = "Throws `IndexOutOfBoundsException` as told, of both")
    static void cornerFunctionBehindLastRefused() {
        Due.refused(Due.OUTSIDE, x -> x.corner(4, 2));
        Due.refused(LeastBoundaries::orderAlone, Due.OUTSIDE, x -> x.corner(0, 2));
    }

    private static Submodulary orderAlone() {
        Submodulary x = Due.bare();
        x.order(2);
        return x;
    }

    @Sentence(promise = 19, says = "to tell their number, also the same one, makes all functions over")
    static void cornerOfFunctionsThatWereRefused() {
        Due.refused(Due::over, Due.OUTSIDE, x -> x.corner(0, 2));
        Due.refused(Due::over, Due.OUTSIDE, x -> x.corner(3, 2));
    }

    @Sentence(promise = 19, says = "Throws `IndexOutOfBoundsException` as told, of both")
    static void cornerFunctionFarRefused() {
        Due.farRefused(Due.OUTSIDE, 0, 3, (x, far) -> x.corner(far, 2));
    }

    @Sentence(promise = 19, says = "Throws `IndexOutOfBoundsException` as told, of both")
    static void cornerElementBelowFirstRefused() {
        Due.refused(Due.OUTSIDE, x -> x.corner(0, -1));
        Due.refused(Due::ordered, Due.OUTSIDE, x -> x.corner(0, -1));
    }

    @Sentence(promise = 19, says = "Throws `IndexOutOfBoundsException` as told, of both")
    static void cornerElementBehindLastRefused() {
        Due.refused(Due::ordered, Due.OUTSIDE, x -> x.corner(0, 3));
        Due.elementBehindLastRefused((x, behind) -> x.corner(0, behind));
    }

    @Sentence(promise = 19, says = "Throws `IndexOutOfBoundsException` as told, of both")
    static void cornerElementFarRefused() {
        Due.farRefused(Due.OUTSIDE, 0, 2, (x, far) -> x.corner(0, far));
    }

    @Sentence(promise = 19, says = "There are up to 6 elements, from 0, as many as were told last")
    static void cornerOfTheLastElement() {
        Due.lastElementAnswers(element -> element + 1, (x, last) -> x.corner(0, last));
    }

    @Sentence(promise = 19, says = "If several apply, the one that is named first in the throws clause is thrown")
    static void cornerFunctionOutsideAheadOfTheUntold() {
        Due.refused(Due.OUTSIDE, x -> x.corner(4, 1));
        Due.refused(Due.OUTSIDE, x -> x.corner(-1, 1));
    }

    @Sentence(promise = 19, says = "If several apply, the one that is named first in the throws clause is thrown")
    static void cornerElementOutsideAheadOfTheUntold() {
        Due.refused(() -> Due.weighed(1, 2, 3), Due.OUTSIDE, x -> x.corner(0, 3));
        Due.refused(() -> Due.weighed(1, 2, 3), Due.OUTSIDE, x -> x.corner(0, -1));
    }
}
