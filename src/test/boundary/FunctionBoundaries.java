/** Boundary cases of functions: promises 8 to 14. */
final class FunctionBoundaries {
    private FunctionBoundaries() {
    }

    // ---- promise 8: make

    @Sentence(promise = 8, says = "`kind`: COVER to WEIGHTS")
    static void makeFirstKind() {
        Submodulary x = Due.told();
        Due.due("make(COVER)", x.make(0), 4);
        Due.values(x, 4, 0, 2, 2, 3, 1, 3, 3, 4);
    }

    @Sentence(promise = 8, says = "`kind`: COVER to WEIGHTS")
    static void makeLastKind() {
        Submodulary x = Due.told();
        Due.due("make(WEIGHTS)", x.make(4), 4);
        Due.values(x, 4, 0, -20, 20, 0, 3, -17, 23, 3);
    }

    @Sentence(promise = 8, says = "Throws `IllegalArgumentException` if kind is out of range")
    static void makeKindBelowFirstRefused() {
        Due.refused(Due.ARGUMENT, x -> x.make(-1));
        Due.refused(Due.ARGUMENT, x -> x.make(Submodulary.NONE));
    }

    @Sentence(promise = 8, says = "Throws `IllegalArgumentException` if kind is out of range")
    static void makeKindBehindLastRefused() {
        Due.refused(Due.ARGUMENT, x -> x.make(5));
    }

    @Sentence(promise = 8, says = "Throws `IllegalArgumentException` if kind is out of range")
    static void makeKindFarRefused() {
        Due.farRefused(Due.ARGUMENT, 0, 4, Submodulary::make);
    }

    @Sentence(promise = 8, says = "Returns its number.")
    static void makeNumbersUpToTheEighth() {
        Submodulary x = Due.fresh(1);
        for (int number = 0; number < 8; number++) {
            x.weigh(0, number - 3);
            Due.due("make", x.make(Submodulary.WEIGHTS), number);
        }
        for (int number = 0; number < 8; number++) {
            Due.due("value(" + number + ", 1)", x.value(number, 1), number - 3);
        }
    }

    @Sentence(promise = 8, says = "Functions are numbered from 0, at most 8")
    static void makeLeavesTheOthers() {
        Submodulary x = Due.between(1, 2, 3, 4, 5, 6);
        Due.due("make(Submodulary.WEIGHTS)", x.make(Submodulary.WEIGHTS), 4);
        theFirstAreAsBefore(x);
    }

    @Sentence(promise = 8, says = "Throws `IllegalStateException` if there are 8")
    static void makeNinthRefused() {
        for (int kind = 0; kind < 5; kind++) {
            int each = kind;
            Due.refused(Due::full, Due.STATE, x -> x.make(each));
        }
    }

    @Sentence(promise = 8, says = "If several apply, the one that is named first in the throws clause is thrown")
    static void makeKindOutOfRangeAheadOfEight() {
        Due.refused(Due::full, Due.ARGUMENT, x -> x.make(-1));
        Due.refused(Due::full, Due.ARGUMENT, x -> x.make(5));
    }

    @Sentence(promise = 8, says = "A function is made of what is told then, by its kind")
    static void makeKeepsWhatWasToldThen() {
        Submodulary x = Due.full();
        Submodulary kept = Due.full();
        x.cover(0, 0, false);
        x.edge(0, 1, 0);
        x.colour(0, 0, 0);
        x.colour(1, 0, 2);
        x.room(0, 4, 0);
        x.room(1, 2, 0);
        x.weigh(0, 0);
        for (int function = 0; function < 8; function++) {
            for (int set = 0; set < 8; set++) {
                Due.due("value(" + function + ", " + set + ")", x.value(function, set), kept.value(function, set));
            }
        }
    }

    @Sentence(promise = 8, says = "A function has a value of each set, 0 of the empty one.")
    static void makeHasNothingOfTheEmptySet() {
        Submodulary x = Due.full();
        for (int function = 0; function < 8; function++) {
            Due.due("value(" + function + ", 0)", x.value(function, 0), 0);
        }
    }

    @Sentence(promise = 8, says = "the value of a set is how many points it covers, each once")
    static void makeCoverOfNoPoints() {
        Submodulary x = Due.fresh(2);
        x.make(Submodulary.COVER);
        Due.values(x, 0, 0, 0, 0, 0);
    }

    @Sentence(promise = 8, says = "the value of a set is how many points it covers, each once")
    static void makeCoverOfAllPointsByAll() {
        Submodulary x = Due.fresh(6);
        for (int cell = 0; cell < 60; cell++) {
            x.cover(cell / 10, cell % 10, true);
        }
        x.make(Submodulary.COVER);
        for (int set = 1; set < 64; set++) {
            Due.due("value(0, " + set + ")", x.value(0, set), 10);
        }
    }

    @Sentence(promise = 8, says = "the value of a set is how many points it covers, each once")
    static void makeCoverOfTheFirstAndTheLastPoint() {
        Submodulary x = Due.fresh(2);
        x.cover(0, 0, true);
        x.cover(0, 9, true);
        x.cover(1, 9, true);
        x.make(Submodulary.COVER);
        Due.values(x, 0, 0, 2, 1, 2);
    }

    @Sentence(promise = 8, says = "the sum of the weights of all edges with one end in it")
    static void makeCutOfEdgesWithBothEndsInIt() {
        Submodulary x = Due.fresh(6);
        for (int one = 0; one < 6; one++) {
            for (int two = one + 1; two < 6; two++) {
                x.edge(one, two, 20);
            }
        }
        x.make(Submodulary.CUT);
        for (int set = 0; set < 64; set++) {
            int in = Integer.bitCount(set);
            Due.due("value(0, " + set + ")", x.value(0, set), 20 * in * (6 - in));
        }
    }

    @Sentence(promise = 8, says = "the sum of the weights of all edges with one end in it")
    static void makeCutOfOneElement() {
        Submodulary x = Due.fresh(1);
        x.make(Submodulary.CUT);
        Due.values(x, 0, 0, 0);
    }

    @Sentence(promise = 8, says = "the sum of the weights of all edges with one end in it")
    static void makeCutOfEachEdgeAlone() {
        for (int one = 0; one < 6; one++) {
            for (int two = 0; two < 6; two++) {
                if (one != two) {
                    cutsOneEdge(one, two);
                }
            }
        }
    }

    private static void cutsOneEdge(int one, int two) {
        Submodulary x = Due.fresh(6);
        x.edge(one, two, 13);
        x.make(Submodulary.CUT);
        for (int set = 0; set < 64; set++) {
            boolean isCut = (set >> one & 1) != (set >> two & 1);
            Due.due("value(0, " + set + ")", x.value(0, set), isCut ? 13 : 0);
        }
    }

    @Sentence(promise = 8, says = "if it has at most as many elements of each colour as its room")
    static void makeRankWithoutRoom() {
        ranksAre(0, 0, 0, 0, 0);
    }

    @Sentence(promise = 8, says = "a colour has a room, 0 to 6, 1 at first")
    static void makeRankWithRoomAsAtFirst() {
        Submodulary x = Due.fresh(6);
        x.make(Submodulary.RANK_ONE);
        x.make(Submodulary.RANK_TWO);
        for (int set = 1; set < 64; set++) {
            Due.due("value(0, " + set + ")", x.value(0, set), 1);
            Due.due("value(1, " + set + ")", x.value(1, set), 1);
        }
    }

    @Sentence(promise = 8, says = "if it has at most as many elements of each colour as its room")
    static void makeRankWithOneMoreThanRoom() {
        ranksAre(2, 1, 2, 2, 2);
    }

    @Sentence(promise = 8, says = "if it has at most as many elements of each colour as its room")
    static void makeRankWithAsManyAsRoom() {
        ranksAre(3, 1, 2, 3, 3);
    }

    @Sentence(promise = 8, says = "how many elements the greatest fair set in it has")
    static void makeRankWithMoreRoomThanElements() {
        ranksAre(6, 1, 2, 3, 4);
    }

    /** Of four elements of the last colour, the values of the sets of one, two, three and four, in both families. */
    private static void ranksAre(int room, int... want) {
        for (int family = 0; family < 2; family++) {
            Submodulary x = Due.fresh(4);
            for (int element = 0; element < 4; element++) {
                x.colour(family, element, 5);
            }
            x.room(family, 5, room);
            x.make(family == 0 ? Submodulary.RANK_ONE : Submodulary.RANK_TWO);
            for (int many = 1; many <= 4; many++) {
                Due.due("rank " + family + " of " + many, x.value(0, (1 << many) - 1), want[many - 1]);
            }
        }
    }

    @Sentence(promise = 8, says = "how many elements the greatest fair set in it has")
    static void makeRankOfSixWithRoomForSix() {
        for (int family = 0; family < 2; family++) {
            Submodulary x = Due.fresh(6);
            x.room(family, 0, 6);
            x.make(family == 0 ? Submodulary.RANK_ONE : Submodulary.RANK_TWO);
            for (int set = 0; set < 64; set++) {
                Due.due("value(0, " + set + ")", x.value(0, set), Integer.bitCount(set));
            }
        }
    }

    @Sentence(promise = 8, says = "how many elements the greatest fair set in it has")
    static void makeRankOfSixColours() {
        for (int family = 0; family < 2; family++) {
            Submodulary x = Due.fresh(6);
            for (int element = 0; element < 6; element++) {
                x.colour(family, element, element);
            }
            x.room(family, 0, 0);
            x.make(family == 0 ? Submodulary.RANK_ONE : Submodulary.RANK_TWO);
            for (int set = 0; set < 64; set++) {
                Due.due("value(0, " + set + ")", x.value(0, set), Integer.bitCount(set & 62));
            }
        }
    }

    @Sentence(promise = 8, says = "RANK_ONE, RANK_TWO: there are two families")
    static void makeRankOfItsFamilyAlone() {
        Submodulary x = Due.fresh(2);
        x.colour(0, 1, 3);
        x.room(1, 0, 0);
        x.make(Submodulary.RANK_ONE);
        x.make(Submodulary.RANK_TWO);
        Due.values(x, 0, 0, 1, 1, 2);
        Due.values(x, 1, 0, 0, 0, 0);
    }

    @Sentence(promise = 8, says = "an element has a weight, -20 to 20, 0 at first")
    static void makeWeightsOfTheLeast() {
        weightsAllAre(-20);
    }

    @Sentence(promise = 8, says = "an element has a weight, -20 to 20, 0 at first")
    static void makeWeightsOfTheGreatest() {
        weightsAllAre(20);
    }

    @Sentence(promise = 8, says = "an element has a weight, -20 to 20, 0 at first")
    static void makeWeightsAsAtFirst() {
        weightsAllAre(0);
    }

    private static void weightsAllAre(int weight) {
        Submodulary x = Due.weighed(weight, weight, weight, weight, weight, weight);
        for (int set = 0; set < 64; set++) {
            Due.due("value(0, " + set + ")", x.value(0, set), weight * Integer.bitCount(set));
        }
    }

    /** The functions that stand between one another, of six elements, have their first and their last values. */
    private static void theFirstAreAsBefore(Submodulary x) {
        int[] ofTheFirst = {-20, -20, 1, -20};
        int[] ofAll = {-80, -80, 21, -80};
        for (int function = 0; function < 4; function++) {
            Due.due("value(" + function + ", 0)", x.value(function, 0), 0);
            Due.due("value(" + function + ", 1)", x.value(function, 1), ofTheFirst[function]);
            Due.due("value(" + function + ", 63)", x.value(function, 63), ofAll[function]);
        }
    }

    // ---- promise 9: sum

    @Sentence(promise = 9, says = "Makes the sum of two functions, perhaps the same.")
    static void sumOfTheSame() {
        Submodulary x = Due.told();
        Due.due("sum(2, 2)", x.sum(2, 2), 4);
        Due.values(x, 4, 0, -40, 40, 0, 6, -34, 46, 6);
        Due.values(x, 2, 0, -20, 20, 0, 3, -17, 23, 3);
    }

    @Sentence(promise = 9, says = "The sum of two functions has the sums of their values.")
    static void sumOfTheFirstAndTheLast() {
        Submodulary x = Due.told();
        Due.due("sum(0, 3)", x.sum(0, 3), 4);
        Due.due("sum(3, 0)", x.sum(3, 0), 5);
        Due.values(x, 4, 0, 3, 11, 27, 28, -7, 24, 1);
        Due.values(x, 5, 0, 3, 11, 27, 28, -7, 24, 1);
    }

    @Sentence(promise = 9, says = "The sum of two functions has the sums of their values.")
    static void sumDoubledUpToTheEighth() {
        Submodulary x = Due.weighed(20, 20, 20, -20, -20, -20);
        for (int number = 1; number < 8; number++) {
            Due.due("sum", x.sum(number - 1, number - 1), number);
        }
        Due.due("the greatest value", x.value(7, 7), 60 * 128);
        Due.due("the least value", x.value(7, 56), -60 * 128);
    }

    @Sentence(promise = 9, says = "Throws `IndexOutOfBoundsException` as told, of both")
    static void sumFunctionBelowFirstRefused() {
        Due.refused(Due.OUTSIDE, x -> x.sum(-1, 0));
    }

    @Sentence(promise = 9, says = "Throws `IndexOutOfBoundsException` as told, of both")
    static void sumOtherBelowFirstRefused() {
        Due.refused(Due.OUTSIDE, x -> x.sum(0, -1));
    }

    @Sentence(promise = 9, says = "Throws `IndexOutOfBoundsException` as told, of both")
    static void sumFunctionBehindLastRefused() {
        Due.refused(Due.OUTSIDE, x -> x.sum(4, 0));
    }

    @Sentence(promise = 9, says = "Throws `IndexOutOfBoundsException` as told, of both")
    static void sumOtherBehindLastRefused() {
        Due.refused(Due.OUTSIDE, x -> x.sum(0, 4));
    }

    @Sentence(promise = 9, says = "Throws `IndexOutOfBoundsException` as told, of both")
    static void sumFunctionFarRefused() {
        Due.farRefused(Due.OUTSIDE, 0, 3, (x, far) -> x.sum(far, 0));
    }

    @Sentence(promise = 9, says = "Throws `IndexOutOfBoundsException` as told, of both")
    static void sumOtherFarRefused() {
        Due.farRefused(Due.OUTSIDE, 0, 3, (x, far) -> x.sum(0, far));
    }

    @Sentence(promise = 9, says = "to tell their number, also the same one, makes all functions over")
    static void sumOfFunctionsThatWereRefused() {
        Due.refused(Due::over, Due.OUTSIDE, x -> x.sum(0, 0));
        Due.refused(Due::over, Due.OUTSIDE, x -> x.sum(3, 3));
    }

    @Sentence(promise = 9, says = "Throws `IndexOutOfBoundsException` as told, of both")
    static void sumWithoutFunctionsRefused() {
        Due.refused(Due::bare, Due.OUTSIDE, x -> x.sum(0, 0));
    }

    @Sentence(promise = 9, says = "Functions are numbered from 0, at most 8")
    static void sumLeavesTheOthers() {
        Submodulary x = Due.between(1, 2, 3, 4, 5, 6);
        Due.due("sum(0, 2)", x.sum(0, 2), 4);
        theFirstAreAsBefore(x);
    }

    @Sentence(promise = 9, says = "Throws `IllegalStateException` if there are 8")
    static void sumNinthRefused() {
        Due.refused(Due::full, Due.STATE, x -> x.sum(0, 7));
        Due.refused(Due::full, Due.STATE, x -> x.sum(7, 7));
    }

    @Sentence(promise = 9, says = "Returns its number.")
    static void sumEighthIsMade() {
        Submodulary x = seven();
        Due.due("sum(6, 0)", x.sum(6, 0), 7);
        Due.values(x, 7, 0, 2 * 23, 2 * 10, 2 * 27);
    }

    @Sentence(promise = 9, says = "If several apply, the one that is named first in the throws clause is thrown")
    static void sumOutsideAheadOfEight() {
        Due.refused(Due::full, Due.OUTSIDE, x -> x.sum(8, 0));
        Due.refused(Due::full, Due.OUTSIDE, x -> x.sum(0, 8));
        Due.refused(Due::full, Due.OUTSIDE, x -> x.sum(-1, 0));
        Due.refused(Due::full, Due.OUTSIDE, x -> x.sum(0, -1));
    }

    /** As told, with seven functions, the last ones like the first. */
    private static Submodulary seven() {
        Submodulary x = Due.told();
        for (int number = 4; number < 7; number++) {
            x.make(Submodulary.CUT);
        }
        return x;
    }

    // ---- promise 10: contract

    @Sentence(promise = 10, says = "Makes a function contracted by a set.")
    static void contractByTheEmptySet() {
        Submodulary x = Due.told();
        Due.due("contract(2, 0)", x.contract(2, 0), 4);
        Due.values(x, 4, 0, -20, 20, 0, 3, -17, 23, 3);
    }

    @Sentence(promise = 10, says = "Makes a function contracted by a set.")
    static void contractByAllElements() {
        Submodulary x = Due.told();
        Due.due("contract(2, 7)", x.contract(2, 7), 4);
        Due.values(x, 4, 0, 0, 0, 0, 0, 0, 0, 0);
    }

    @Sentence(promise = 10, says = "has of a set the value of both together less that of the set by which it is contracted")
    static void contractBySetsThatMeetTheValued() {
        Submodulary x = Due.told();
        Due.due("contract(0, 3)", x.contract(0, 3), 4);
        Due.values(x, 4, 0, 0, 0, 0, -27, -27, -27, -27);
        Due.due("contract(0, 4)", x.contract(0, 4), 5);
        Due.values(x, 5, 0, -17, -4, -27, 0, -17, -4, -27);
    }

    @Sentence(promise = 10, says = "Throws `IllegalArgumentException` as told, of the set")
    static void contractBySetBelowEmptyRefused() {
        Due.refused(Due.ARGUMENT, x -> x.contract(0, -1));
    }

    @Sentence(promise = 10, says = "a set with others than the elements, too")
    static void contractBySetWithOneMoreRefused() {
        for (int many = 1; many <= 6; many++) {
            int each = many;
            Due.refused(() -> Due.lessened(each), Due.ARGUMENT, x -> x.contract(0, 1 << each));
            Due.refused(() -> Due.lessened(each), Due.ARGUMENT, x -> x.contract(0, (2 << each) - 1));
        }
    }

    @Sentence(promise = 10, says = "Throws `IllegalArgumentException` as told, of the set")
    static void contractBySetFarRefused() {
        Due.farRefused(Due.ARGUMENT, 0, 7, (x, far) -> x.contract(0, far));
    }

    @Sentence(promise = 10, says = "Throws `IndexOutOfBoundsException` as told")
    static void contractFunctionBelowFirstRefused() {
        Due.refused(Due.OUTSIDE, x -> x.contract(-1, 0));
    }

    @Sentence(promise = 10, says = "Throws `IndexOutOfBoundsException` as told")
    static void contractFunctionBehindLastRefused() {
        Due.refused(Due.OUTSIDE, x -> x.contract(4, 0));
        Due.refused(Due::bare, Due.OUTSIDE, x -> x.contract(0, 0));
    }

    @Sentence(promise = 10, says = "to tell their number, also the same one, makes all functions over")
    static void contractOfFunctionsThatWereRefused() {
        Due.refused(Due::over, Due.OUTSIDE, x -> x.contract(0, 0));
        Due.refused(Due::over, Due.OUTSIDE, x -> x.contract(3, 0));
    }

    @Sentence(promise = 10, says = "Throws `IndexOutOfBoundsException` as told")
    static void contractFunctionFarRefused() {
        Due.farRefused(Due.OUTSIDE, 0, 3, (x, far) -> x.contract(far, 0));
    }

    @Sentence(promise = 10, says = "Functions are numbered from 0, at most 8")
    static void contractLeavesTheOthers() {
        Submodulary x = Due.between(1, 2, 3, 4, 5, 6);
        Due.due("contract(2, 63)", x.contract(2, 63), 4);
        theFirstAreAsBefore(x);
    }

    @Sentence(promise = 10, says = "Throws `IllegalStateException` if there are 8")
    static void contractNinthRefused() {
        Due.refused(Due::full, Due.STATE, x -> x.contract(0, 0));
        Due.refused(Due::full, Due.STATE, x -> x.contract(7, 7));
    }

    @Sentence(promise = 10, says = "Returns its number.")
    static void contractEighthIsMade() {
        Submodulary x = seven();
        Due.due("contract(6, 1)", x.contract(6, 1), 7);
        Due.values(x, 7, 0, 0, 4, 4);
    }

    @Sentence(promise = 10, says = "If several apply, the one that is named first in the throws clause is thrown")
    static void contractOutsideAheadOfSet() {
        Due.refused(Due.OUTSIDE, x -> x.contract(4, 8));
        Due.refused(Due.OUTSIDE, x -> x.contract(-1, -1));
    }

    @Sentence(promise = 10, says = "If several apply, the one that is named first in the throws clause is thrown")
    static void contractOutsideAheadOfEight() {
        Due.refused(Due::full, Due.OUTSIDE, x -> x.contract(8, 0));
        Due.refused(Due::full, Due.OUTSIDE, x -> x.contract(-1, 8));
    }

    @Sentence(promise = 10, says = "If several apply, the one that is named first in the throws clause is thrown")
    static void contractSetAheadOfEight() {
        Due.refused(Due::full, Due.ARGUMENT, x -> x.contract(0, 8));
        Due.refused(Due::full, Due.ARGUMENT, x -> x.contract(0, -1));
    }

    // ---- promise 11: cap

    @Sentence(promise = 11, says = "`most`: 0 to 100")
    static void capByNothing() {
        Submodulary x = Due.told();
        Due.due("cap(2, 0)", x.cap(2, 0), 4);
        Due.values(x, 4, 0, -20, 0, 0, 0, -17, 0, 0);
    }

    @Sentence(promise = 11, says = "`most`: 0 to 100")
    static void capByTheMost() {
        Submodulary x = Due.weighed(20, 20, 20, 20, 20, 20);
        Due.due("cap(0, 100)", x.cap(0, 100), 1);
        Due.due("of less", x.value(1, 15), 80);
        Due.due("of as many", x.value(1, 31), 100);
        Due.due("of more", x.value(1, 63), 100);
    }

    @Sentence(promise = 11, says = "has the lesser of its value and that number")
    static void capOfOneLessTheSameAndOneMore() {
        Submodulary x = Due.weighed(4, 5, 6);
        Due.due("cap(0, 5)", x.cap(0, 5), 1);
        Due.values(x, 1, 0, 4, 5, 5, 5, 5, 5, 5);
    }

    @Sentence(promise = 11, says = "Throws `IllegalArgumentException` if most is out of range")
    static void capBelowNothingRefused() {
        Due.refused(Due.ARGUMENT, x -> x.cap(0, -1));
    }

    @Sentence(promise = 11, says = "Throws `IllegalArgumentException` if most is out of range")
    static void capAboveTheMostRefused() {
        Due.refused(Due.ARGUMENT, x -> x.cap(0, 101));
    }

    @Sentence(promise = 11, says = "Throws `IllegalArgumentException` if most is out of range")
    static void capFarRefused() {
        Due.farRefused(Due.ARGUMENT, 0, 100, (x, far) -> x.cap(0, far));
    }

    @Sentence(promise = 11, says = "Throws `IndexOutOfBoundsException` as told")
    static void capFunctionBelowFirstRefused() {
        Due.refused(Due.OUTSIDE, x -> x.cap(-1, 0));
    }

    @Sentence(promise = 11, says = "Throws `IndexOutOfBoundsException` as told")
    static void capFunctionBehindLastRefused() {
        Due.refused(Due.OUTSIDE, x -> x.cap(4, 0));
        Due.refused(Due::bare, Due.OUTSIDE, x -> x.cap(0, 0));
    }

    @Sentence(promise = 11, says = "to tell their number, also the same one, makes all functions over")
    static void capOfFunctionsThatWereRefused() {
        Due.refused(Due::over, Due.OUTSIDE, x -> x.cap(0, 0));
        Due.refused(Due::over, Due.OUTSIDE, x -> x.cap(3, 0));
    }

    @Sentence(promise = 11, says = "Throws `IndexOutOfBoundsException` as told")
    static void capFunctionFarRefused() {
        Due.farRefused(Due.OUTSIDE, 0, 3, (x, far) -> x.cap(far, 0));
    }

    @Sentence(promise = 11, says = "Functions are numbered from 0, at most 8")
    static void capLeavesTheOthers() {
        Submodulary x = Due.between(1, 2, 3, 4, 5, 6);
        Due.due("cap(2, 10)", x.cap(2, 10), 4);
        theFirstAreAsBefore(x);
    }

    @Sentence(promise = 11, says = "Throws `IllegalStateException` if there are 8")
    static void capNinthRefused() {
        Due.refused(Due::full, Due.STATE, x -> x.cap(0, 0));
        Due.refused(Due::full, Due.STATE, x -> x.cap(7, 100));
    }

    @Sentence(promise = 11, says = "Returns its number.")
    static void capEighthIsMade() {
        Submodulary x = seven();
        Due.due("cap(6, 20)", x.cap(6, 20), 7);
        Due.values(x, 7, 0, 20, 10, 20);
    }

    @Sentence(promise = 11, says = "If several apply, the one that is named first in the throws clause is thrown")
    static void capOutsideAheadOfMost() {
        Due.refused(Due.OUTSIDE, x -> x.cap(4, 101));
        Due.refused(Due.OUTSIDE, x -> x.cap(-1, -1));
    }

    @Sentence(promise = 11, says = "If several apply, the one that is named first in the throws clause is thrown")
    static void capOutsideAheadOfEight() {
        Due.refused(Due::full, Due.OUTSIDE, x -> x.cap(8, 0));
        Due.refused(Due::full, Due.OUTSIDE, x -> x.cap(-1, 101));
    }

    @Sentence(promise = 11, says = "If several apply, the one that is named first in the throws clause is thrown")
    static void capMostAheadOfEight() {
        Due.refused(Due::full, Due.ARGUMENT, x -> x.cap(0, 101));
        Due.refused(Due::full, Due.ARGUMENT, x -> x.cap(0, -1));
    }

    // ---- promise 12: value

    @Sentence(promise = 12, says = "A function has a value of each set, 0 of the empty one.")
    static void valueOfTheEmptySet() {
        for (int function = 0; function < 8; function++) {
            Due.due("value(" + function + ", 0)", Due.full().value(function, 0), 0);
        }
    }

    @Sentence(promise = 12, says = "a set is told by bits, the bit i for the element i")
    static void valueOfEachElementAlone() {
        Submodulary x = Due.weighed(3, -5, 7, -11, 13, -17);
        int[] want = {3, -5, 7, -11, 13, -17};
        for (int element = 0; element < 6; element++) {
            Due.due("value of " + element, x.value(0, 1 << element), want[element]);
        }
    }

    @Sentence(promise = 12, says = "a set is told by bits, the bit i for the element i")
    static void valueOfAllElements() {
        for (int many = 1; many <= 6; many++) {
            Due.due("value of all " + many, Due.lessened(many).value(0, (1 << many) - 1), many * (many + 1) / 2);
        }
    }

    @Sentence(promise = 12, says = "Throws `IllegalArgumentException` as told, of the set")
    static void valueOfSetBelowEmptyRefused() {
        Due.refused(Due.ARGUMENT, x -> x.value(0, -1));
    }

    @Sentence(promise = 12, says = "a set with others than the elements, too")
    static void valueOfSetWithOneMoreRefused() {
        for (int many = 1; many <= 6; many++) {
            int each = many;
            Due.refused(() -> Due.lessened(each), Due.ARGUMENT, x -> x.value(0, 1 << each));
            Due.refused(() -> Due.lessened(each), Due.ARGUMENT, x -> x.value(0, (2 << each) - 1));
        }
    }

    @Sentence(promise = 12, says = "Throws `IllegalArgumentException` as told, of the set")
    static void valueOfSetFarRefused() {
        Due.farRefused(Due.ARGUMENT, 0, 7, (x, far) -> x.value(0, far));
    }

    @Sentence(promise = 12, says = "Throws `IndexOutOfBoundsException` as told")
    static void valueFunctionBelowFirstRefused() {
        Due.refused(Due.OUTSIDE, x -> x.value(-1, 0));
    }

    @Sentence(promise = 12, says = "Throws `IndexOutOfBoundsException` as told")
    static void valueFunctionBehindLastRefused() {
        Due.refused(Due.OUTSIDE, x -> x.value(4, 0));
        Due.refused(Due::full, Due.OUTSIDE, x -> x.value(8, 0));
    }

    @Sentence(promise = 12, says = "to tell their number, also the same one, makes all functions over")
    static void valueOfFunctionsThatWereRefused() {
        Due.refused(Due::over, Due.OUTSIDE, x -> x.value(0, 0));
        Due.refused(Due::over, Due.OUTSIDE, x -> x.value(3, 0));
    }

    @Sentence(promise = 12, says = "Throws `IndexOutOfBoundsException` as told")
    static void valueFunctionFarRefused() {
        Due.farRefused(Due.OUTSIDE, 0, 3, (x, far) -> x.value(far, 0));
    }

    @Sentence(promise = 12, says = "Throws `IndexOutOfBoundsException` as told")
    static void valueOfTheLastFunction() {
        Due.values(Due.told(), 3, 0, -20, 1, 0, 1, -17, 1, 1);
        Due.values(Due.full(), 7, 0, 0, 4, 4, -13, -13, -23, -23);
    }

    @Sentence(promise = 12, says = "Functions are numbered from 0, at most 8")
    static void valueOfEachForItself() {
        Submodulary x = Due.between(1, 2, 3, 4, 5, 6);
        int[] ofTheLast = {20, 0, 6, 0};
        int[] ofAll = {-80, -80, 21, -80};
        for (int function = 0; function < 4; function++) {
            Due.due("value(" + function + ", 0)", x.value(function, 0), 0);
            Due.due("value(" + function + ", 32)", x.value(function, 32), ofTheLast[function]);
            Due.due("value(" + function + ", 63)", x.value(function, 63), ofAll[function]);
        }
    }

    @Sentence(promise = 12, says = "If several apply, the one that is named first in the throws clause is thrown")
    static void valueOutsideAheadOfSet() {
        Due.refused(Due.OUTSIDE, x -> x.value(4, 8));
        Due.refused(Due.OUTSIDE, x -> x.value(-1, -1));
    }

    // ---- promise 13: isLawful

    @Sentence(promise = 13, says = "are at least that of the set and that with both, together")
    static void isLawfulWithAllAlike() {
        Due.due("of weights", Due.weighed(3, -5, 7, -11, 13, -17).isLawful(0), true);
        Due.due("of nothing", Due.weighed(0, 0, 0, 0, 0, 0).isLawful(0), true);
    }

    @Sentence(promise = 13, says = "are at least that of the set and that with both, together")
    static void isLawfulNotWithOneLess() {
        Submodulary x = Due.weighed(-1, 1);
        Due.due("of the capped by nothing", x.isLawful(x.cap(0, 0)), false);
        Due.due("of the capped by one", x.isLawful(x.cap(0, 1)), true);
    }

    @Sentence(promise = 13, says = "It has the law, if for each set and each two elements not in it")
    static void isLawfulNotWithOnePlaceBroken() {
        for (int one = 0; one < 6; one++) {
            for (int two = 0; two < 6; two++) {
                for (int set = 0; set < 64; set++) {
                    if (one != two && (set & (1 << one | 1 << two)) == 0) {
                        Submodulary x = brokenAt(set, one, two, 0);
                        Due.due("broken at " + set + ", " + one + ", " + two, x.isLawful(3), false);
                    }
                }
            }
        }
    }

    @Sentence(promise = 13, says = "It has the law, if for each set and each two elements not in it")
    static void isLawfulWithNoPlaceBroken() {
        for (int one = 0; one < 6; one++) {
            for (int two = 0; two < 6; two++) {
                for (int set = 0; set < 64; set++) {
                    if (one != two && (set & (1 << one | 1 << two)) == 0) {
                        Submodulary x = brokenAt(set, one, two, 1);
                        Due.due("mended at " + set + ", " + one + ", " + two, x.isLawful(3), true);
                    }
                }
            }
        }
    }

    /**
     * Function 3 breaks the law by one, with this set and these two elements alone; with an edge of one between
     * the two it keeps it. Capped weights break it with each element that lessens and each that leads above the
     * cap; an edge between two makes up for it with each set.
     */
    private static Submodulary brokenAt(int set, int lessening, int leading, int edge) {
        Submodulary x = Due.fresh(6);
        for (int element = 0; element < 6; element++) {
            boolean isIn = (set >> element & 1) == 1;
            x.weigh(element, isIn ? 2 : element == leading ? 1 : element == lessening ? -1 : -20);
        }
        for (int one = 0; one < 6; one++) {
            for (int two = one + 1; two < 6; two++) {
                boolean isPlace = (1 << one | 1 << two) == (1 << lessening | 1 << leading);
                x.edge(one, two, isPlace ? edge : 1);
            }
        }
        x.make(Submodulary.WEIGHTS);
        x.make(Submodulary.CUT);
        x.cap(0, 2 * Integer.bitCount(set));
        x.sum(1, 2);
        return x;
    }

    @Sentence(promise = 13, says = "It has the law, if for each set and each two elements not in it")
    static void isLawfulWithoutTwoElements() {
        Submodulary x = Due.weighed(-20);
        Due.due("of one lessening", x.isLawful(0), true);
        Due.due("of it capped", x.isLawful(x.cap(0, 0)), true);
    }

    @Sentence(promise = 13, says = "There are up to 6 elements, from 0, as many as were told last")
    static void isLawfulOfFewerElementsThanBefore() {
        Submodulary x = brokenAt(0, 4, 5, 0);
        x.elements(2);
        for (int number = 0; number < 4; number++) {
            x.make(Submodulary.CUT);
        }
        Due.due("where six broke the law", x.isLawful(3), true);
    }

    @Sentence(promise = 13, says = "Functions are numbered from 0, at most 8")
    static void isLawfulOfEachForItself() {
        Submodulary x = Due.between(1, 2, 3, 4, 5, 6);
        boolean[] want = {true, false, true, false};
        for (int function = 0; function < 4; function++) {
            Due.due("isLawful(" + function + ")", x.isLawful(function), want[function]);
        }
    }

    @Sentence(promise = 13, says = "Throws `IndexOutOfBoundsException` as told")
    static void isLawfulFunctionBelowFirstRefused() {
        Due.refused(Due.OUTSIDE, x -> Due.one(x.isLawful(-1)));
    }

    @Sentence(promise = 13, says = "Throws `IndexOutOfBoundsException` as told")
    static void isLawfulFunctionBehindLastRefused() {
        Due.refused(Due.OUTSIDE, x -> Due.one(x.isLawful(4)));
        Due.refused(Due::bare, Due.OUTSIDE, x -> Due.one(x.isLawful(0)));
        Due.refused(Due::full, Due.OUTSIDE, x -> Due.one(x.isLawful(8)));
    }

    @Sentence(promise = 13, says = "to tell their number, also the same one, makes all functions over")
    static void isLawfulOfFunctionsThatWereRefused() {
        Due.refused(Due::over, Due.OUTSIDE, x -> Due.one(x.isLawful(0)));
        Due.refused(Due::over, Due.OUTSIDE, x -> Due.one(x.isLawful(3)));
    }

    @Sentence(promise = 13, says = "Throws `IndexOutOfBoundsException` as told")
    static void isLawfulFunctionFarRefused() {
        Due.farRefused(Due.OUTSIDE, 0, 3, (x, far) -> Due.one(x.isLawful(far)));
    }

    @Sentence(promise = 13, says = "Throws `IndexOutOfBoundsException` as told")
    static void isLawfulOfTheFirstAndTheLast() {
        Due.due("of the first", Due.full().isLawful(0), true);
        Due.due("of the last", Due.full().isLawful(7), true);
        Due.due("of the last as told", Due.told().isLawful(3), false);
    }

    // ---- promise 14: rises

    @Sentence(promise = 14, says = "It rises, if no value is less than that of a set that is part of its set.")
    static void risesWithAllAlike() {
        Due.due("of nothing", Due.weighed(0, 0, 0, 0, 0, 0).rises(0), true);
    }

    @Sentence(promise = 14, says = "It rises, if no value is less than that of a set that is part of its set.")
    static void risesNotWithOneStepDown() {
        for (int element = 0; element < 6; element++) {
            for (int set = 0; set < 64; set++) {
                if ((set >> element & 1) == 0) {
                    Submodulary x = downAt(set, element, -1);
                    Due.due("down at " + set + ", " + element, x.rises(3), false);
                }
            }
        }
    }

    @Sentence(promise = 14, says = "It rises, if no value is less than that of a set that is part of its set.")
    static void risesWithNoStepDown() {
        for (int element = 0; element < 6; element++) {
            for (int set = 0; set < 64; set++) {
                if ((set >> element & 1) == 0) {
                    Submodulary x = downAt(set, element, 0);
                    Due.due("level at " + set + ", " + element, x.rises(3), true);
                }
            }
        }
    }

    /**
     * Function 3 becomes less by one by this element with this set alone, where the weight is -1. With a part of the
     * set the element covers points that make up for it, with other elements the cap hides it.
     */
    private static Submodulary downAt(int set, int element, int weight) {
        Submodulary x = Due.fresh(6);
        for (int other = 0; other < 6; other++) {
            if ((set >> other & 1) == 1) {
                x.cover(other, other, true);
                x.cover(element, other, true);
            } else {
                x.weigh(other, other == element ? weight : 1);
            }
        }
        x.make(Submodulary.COVER);
        x.make(Submodulary.WEIGHTS);
        x.cap(1, 0);
        x.sum(0, 2);
        return x;
    }

    @Sentence(promise = 14, says = "It rises, if no value is less than that of a set that is part of its set.")
    static void risesOfOneElement() {
        Due.due("of one more", Due.weighed(1).rises(0), true);
        Due.due("of one alike", Due.weighed(0).rises(0), true);
        Due.due("of one less", Due.weighed(-1).rises(0), false);
    }

    @Sentence(promise = 14, says = "There are up to 6 elements, from 0, as many as were told last")
    static void risesOfFewerElementsThanBefore() {
        Submodulary x = Due.weighed(-20, -20, -20, -20, -20, -20);
        x.elements(2);
        x.make(Submodulary.COVER);
        Due.due("where six were less", x.rises(0), true);
    }

    @Sentence(promise = 14, says = "Functions are numbered from 0, at most 8")
    static void risesOfEachForItself() {
        Submodulary x = Due.between(1, 2, 3, 4, 5, 6);
        boolean[] want = {false, false, true, false};
        for (int function = 0; function < 4; function++) {
            Due.due("rises(" + function + ")", x.rises(function), want[function]);
        }
    }

    @Sentence(promise = 14, says = "Throws `IndexOutOfBoundsException` as told")
    static void risesFunctionBelowFirstRefused() {
        Due.refused(Due.OUTSIDE, x -> Due.one(x.rises(-1)));
    }

    @Sentence(promise = 14, says = "Throws `IndexOutOfBoundsException` as told")
    static void risesFunctionBehindLastRefused() {
        Due.refused(Due.OUTSIDE, x -> Due.one(x.rises(4)));
        Due.refused(Due::bare, Due.OUTSIDE, x -> Due.one(x.rises(0)));
        Due.refused(Due::full, Due.OUTSIDE, x -> Due.one(x.rises(8)));
    }

    @Sentence(promise = 14, says = "to tell their number, also the same one, makes all functions over")
    static void risesOfFunctionsThatWereRefused() {
        Due.refused(Due::over, Due.OUTSIDE, x -> Due.one(x.rises(0)));
        Due.refused(Due::over, Due.OUTSIDE, x -> Due.one(x.rises(3)));
    }

    @Sentence(promise = 14, says = "Throws `IndexOutOfBoundsException` as told")
    static void risesFunctionFarRefused() {
        Due.farRefused(Due.OUTSIDE, 0, 3, (x, far) -> Due.one(x.rises(far)));
    }

    @Sentence(promise = 14, says = "Throws `IndexOutOfBoundsException` as told")
    static void risesOfTheFirstAndTheLast() {
        Due.due("of the first", Due.full().rises(0), false);
        Due.due("of the second", Due.full().rises(1), true);
        Due.due("of the last", Due.full().rises(7), false);
    }
}
