/** Boundary cases of what is told: promises 1 to 7. */
final class ToldBoundaries {
    private ToldBoundaries() {
    }

    // ---- promise 1: a new object

    @Sentence(promise = 1, says = "Begins with 4 elements.")
    static void newObjectBeginsWithFour() {
        Due.due("elements(2)", Due.bare().elements(2), 4);
    }

    @Sentence(promise = 1, says = "Begins with 4 elements.")
    static void newObjectHasElementThree() {
        Due.due("weigh(3, 5)", Due.bare().weigh(3, 5), 0);
    }

    @Sentence(promise = 1, says = "Begins with 4 elements.")
    static void newObjectHasNoElementFour() {
        Due.refused(Due::bare, Due.OUTSIDE, x -> x.weigh(4, 0));
    }

    @Sentence(promise = 1, says = "Begins with 4 elements.")
    static void newObjectHasSetsOfFour() {
        Submodulary x = Due.bare();
        x.weigh(3, 5);
        x.make(Submodulary.WEIGHTS);
        Due.due("value(0, 15)", x.value(0, 15), 5);
    }

    @Sentence(promise = 1, says = "Functions are numbered from 0, at most 8")
    static void newObjectHasNoFunction() {
        Due.refused(Due::bare, Due.OUTSIDE, x -> x.value(0, 0));
    }

    @Sentence(promise = 1, says = "Functions are numbered from 0, at most 8")
    static void newObjectNumbersFromNothing() {
        Due.due("make", Due.bare().make(Submodulary.CUT), 0);
    }

    @Sentence(promise = 1, says = "an element covers some of them, none at first")
    static void newObjectCoversNothing() {
        Submodulary x = Due.bare();
        for (int cell = 0; cell < 40; cell++) {
            Due.due("cover of cell " + cell, x.cover(cell / 10, cell % 10, true), false);
        }
    }

    @Sentence(promise = 1, says = "of some weight, 0 to 20, 0 at first")
    static void newObjectHasNoEdges() {
        Submodulary x = Due.bare();
        for (int one = 0; one < 4; one++) {
            for (int two = one + 1; two < 4; two++) {
                Due.due("edge of " + one + ", " + two, x.edge(one, two, 1), 0);
            }
        }
    }

    @Sentence(promise = 1, says = "an element has a colour, 0 to 5, 0 at first")
    static void newObjectHasOneColour() {
        Submodulary x = Due.bare();
        for (int cell = 0; cell < 8; cell++) {
            Due.due("colour of cell " + cell, x.colour(cell / 4, cell % 4, 1), 0);
        }
    }

    @Sentence(promise = 1, says = "a colour has a room, 0 to 6, 1 at first")
    static void newObjectHasRoomForOne() {
        Submodulary x = Due.bare();
        for (int cell = 0; cell < 12; cell++) {
            Due.due("room of cell " + cell, x.room(cell / 6, cell % 6, 2), 1);
        }
    }

    @Sentence(promise = 1, says = "an element has a weight, -20 to 20, 0 at first")
    static void newObjectHasNoWeights() {
        Submodulary x = Due.bare();
        for (int element = 0; element < 4; element++) {
            Due.due("weight of " + element, x.weigh(element, 1), 0);
        }
    }

    @Sentence(promise = 1, says = "those that are not told yet have none")
    static void newObjectHasNoOrder() {
        for (int element = 0; element < 4; element++) {
            int untold = element;
            Due.refused(ToldBoundaries::withOneFunction, Due.STATE, x -> x.corner(0, untold));
        }
    }

    @Sentence(promise = 1, says = "An order is told element by element, each once.")
    static void newObjectOrdersFromOne() {
        Due.due("order(3)", Due.bare().order(3), 1);
    }

    @Sentence(promise = 1, says = "An object is used for at most 512 calls after it has been made")
    static void lastOfAllCallsAnswers() {
        Submodulary x = Due.bare();
        for (int call = 1; call < 512; call++) {
            x.weigh(3, call % 21);
        }
        Due.due("the 512th call", x.weigh(3, 0), 7);
    }

    @Sentence(promise = 1, says = "An object is used for at most 512 calls after it has been made")
    static void newBeginningsOfAllCallsAnswer() {
        Submodulary x = Due.bare();
        for (int round = 0; round < 56; round++) {
            Due.due("elements", x.elements(6), round == 0 ? 4 : 6);
            for (int number = 0; number < 8; number++) {
                Due.due("make in round " + round, x.make(Submodulary.RANK_TWO), number);
            }
        }
    }

    private static Submodulary withOneFunction() {
        Submodulary x = Due.bare();
        x.make(Submodulary.WEIGHTS);
        return x;
    }

    // ---- promise 2: elements

    @Sentence(promise = 2, says = "`many`: 1 to 6")
    static void elementsFewest() {
        Submodulary x = Due.bare();
        Due.due("elements(1)", x.elements(1), 4);
        Due.due("elements after it", x.elements(2), 1);
    }

    @Sentence(promise = 2, says = "`many`: 1 to 6")
    static void elementsMost() {
        Submodulary x = Due.bare();
        Due.due("elements(6)", x.elements(6), 4);
        Due.due("elements after it", x.elements(2), 6);
    }

    @Sentence(promise = 2, says = "Throws `IllegalArgumentException` if many is out of range")
    static void elementsNoneRefused() {
        Due.refused(Due.ARGUMENT, x -> x.elements(0));
    }

    @Sentence(promise = 2, says = "Throws `IllegalArgumentException` if many is out of range")
    static void elementsLessThanNoneRefused() {
        Due.refused(Due.ARGUMENT, x -> x.elements(-1));
    }

    @Sentence(promise = 2, says = "Throws `IllegalArgumentException` if many is out of range")
    static void elementsSevenRefused() {
        Due.refused(Due.ARGUMENT, x -> x.elements(7));
    }

    @Sentence(promise = 2, says = "Throws `IllegalArgumentException` if many is out of range")
    static void elementsFarRefused() {
        Due.farRefused(Due.ARGUMENT, 1, 6, Submodulary::elements);
    }

    @Sentence(promise = 2, says = "a call that throws changes nothing")
    static void elementsRefusedWithAllMadeChangesNothing() {
        Due.refused(Due::full, Due.ARGUMENT, x -> x.elements(7));
        Due.refused(Due::ordered, Due.ARGUMENT, x -> x.elements(0));
    }

    @Sentence(promise = 2, says = "Returns how many there were.")
    static void elementsReturnsEachNumber() {
        for (int many = 1; many <= 6; many++) {
            Due.due("elements after " + many, Due.fresh(many).elements(many), many);
        }
    }

    @Sentence(promise = 2, says = "There are up to 6 elements, from 0, as many as were told last")
    static void elementsLetTheLastOneBe() {
        Due.lastElementAnswers(element -> element + 1, (x, last) -> x.weigh(last, 0));
    }

    @Sentence(promise = 2, says = "There are up to 6 elements, from 0, as many as were told last")
    static void elementsLetNoneBehindTheLastBe() {
        Due.elementBehindLastRefused((x, behind) -> x.weigh(behind, 0));
    }

    @Sentence(promise = 2, says = "a set is told by bits, the bit i for the element i")
    static void elementsLetTheGreatestSetBe() {
        for (int many = 1; many <= 6; many++) {
            Due.due("value of all " + many, Due.lessened(many).value(0, (1 << many) - 1), many * (many + 1) / 2);
        }
    }

    @Sentence(promise = 2, says = "a set with others than the elements, too")
    static void elementsLetNoGreaterSetBe() {
        for (int many = 1; many <= 6; many++) {
            int behind = 1 << many;
            Due.refused(() -> Due.lessened(Integer.numberOfTrailingZeros(behind)), Due.ARGUMENT, x -> x.value(0, behind));
        }
    }

    @Sentence(promise = 2, says = "to tell their number, also the same one, makes all functions over")
    static void elementsOfTheSameNumberEndsTheFirstFunction() {
        Due.refused(() -> againSame(Due.told()), Due.OUTSIDE, x -> x.value(0, 0));
    }

    @Sentence(promise = 2, says = "to tell their number, also the same one, makes all functions over")
    static void elementsOfAnotherNumberEndsTheFirstFunction() {
        Due.refused(ToldBoundaries::againMore, Due.OUTSIDE, x -> x.value(0, 0));
    }

    @Sentence(promise = 2, says = "to tell their number, also the same one, makes all functions over")
    static void elementsEndsTheLastOfAllFunctions() {
        Due.refused(() -> againSame(Due.full()), Due.OUTSIDE, x -> x.value(7, 0));
    }

    @Sentence(promise = 2, says = "to tell their number, also the same one, makes all functions over")
    static void elementsLetsEightBeMadeAgain() {
        Submodulary x = againSame(Due.full());
        for (int number = 0; number < 8; number++) {
            Due.due("make", x.make(Submodulary.CUT), number);
            Due.values(x, number, 0, 0, 0, 0, 0, 0, 0, 0);
        }
    }

    @Sentence(promise = 2, says = "and all that was told below as at first, the order, too")
    static void elementsOfTheSameNumberIsAsAtFirst() {
        Due.due("what can be read", Due.looks(againSame(Due.told())).equals(Due.looks(Due.fresh(3))), true);
    }

    @Sentence(promise = 2, says = "and all that was told below as at first, the order, too")
    static void elementsOfAnotherNumberIsAsAtFirst() {
        Due.due("what can be read", Due.looks(againMore()).equals(Due.looks(Due.bare())), true);
    }

    @Sentence(promise = 2, says = "and all that was told below as at first, the order, too")
    static void elementsUncoversTheLastPointOfTheLast() {
        Submodulary x = Due.fresh(6);
        x.cover(5, 9, true);
        x.elements(1);
        x.elements(6);
        Due.due("cover(5, 9)", x.cover(5, 9, false), false);
    }

    @Sentence(promise = 2, says = "and all that was told below as at first, the order, too")
    static void elementsTakesTheEdgesOfTheLastAway() {
        Submodulary x = Due.fresh(6);
        x.edge(4, 5, 20);
        x.elements(1);
        x.elements(6);
        Due.due("edge(5, 4)", x.edge(5, 4, 0), 0);
        Due.due("edge(4, 5)", x.edge(4, 5, 0), 0);
    }

    @Sentence(promise = 2, says = "and all that was told below as at first, the order, too")
    static void elementsTakesTheColoursOfTheLastAway() {
        Submodulary x = Due.fresh(6);
        x.colour(0, 5, 5);
        x.colour(1, 5, 5);
        x.elements(1);
        x.elements(6);
        Due.due("colour(0, 5)", x.colour(0, 5, 0), 0);
        Due.due("colour(1, 5)", x.colour(1, 5, 0), 0);
    }

    @Sentence(promise = 2, says = "and all that was told below as at first, the order, too")
    static void elementsLetsEachRoomBeOne() {
        Submodulary x = Due.fresh(1);
        x.room(0, 5, 0);
        x.room(1, 5, 6);
        x.elements(1);
        Due.due("room(0, 5)", x.room(0, 5, 1), 1);
        Due.due("room(1, 5)", x.room(1, 5, 1), 1);
    }

    @Sentence(promise = 2, says = "and all that was told below as at first, the order, too")
    static void elementsTakesTheWeightOfTheLastAway() {
        Submodulary x = Due.fresh(6);
        x.weigh(5, -20);
        x.elements(1);
        x.elements(6);
        Due.due("weigh(5)", x.weigh(5, 0), 0);
    }

    @Sentence(promise = 2, says = "and all that was told below as at first, the order, too")
    static void elementsEndsAnOrderInPart() {
        Submodulary x = againSame(Due.told());
        Due.due("order(2), that was told", x.order(2), 1);
    }

    @Sentence(promise = 2, says = "and all that was told below as at first, the order, too")
    static void elementsEndsAWholeOrder() {
        Submodulary x = againSame(Due.ordered());
        x.make(Submodulary.CUT);
        Due.due("corner of one that was told", Due.answer(x, y -> y.corner(0, 1)).equals("IllegalStateException"), true);
        Due.due("order(0)", x.order(0), 1);
        Due.due("order(1)", x.order(1), 2);
    }

    private static Submodulary againSame(Submodulary x) {
        x.elements(3);
        return x;
    }

    private static Submodulary againMore() {
        Submodulary x = Due.told();
        x.elements(4);
        return x;
    }

    // ---- promise 3: cover

    @Sentence(promise = 3, says = "there are the points 0 to 9")
    static void coverFirstPoint() {
        coversOne(0, 0);
    }

    @Sentence(promise = 3, says = "there are the points 0 to 9")
    static void coverLastPoint() {
        coversOne(0, 9);
    }

    @Sentence(promise = 3, says = "Throws `IndexOutOfBoundsException` as told, of both")
    static void coverPointBelowFirstRefused() {
        Due.refused(Due.OUTSIDE, x -> Due.one(x.cover(0, -1, true)));
    }

    @Sentence(promise = 3, says = "Throws `IndexOutOfBoundsException` as told, of both")
    static void coverPointBehindLastRefused() {
        Due.refused(Due.OUTSIDE, x -> Due.one(x.cover(0, 10, true)));
    }

    @Sentence(promise = 3, says = "Throws `IndexOutOfBoundsException` as told, of both")
    static void coverPointFarRefused() {
        Due.farRefused(Due.OUTSIDE, 0, 9, (x, far) -> Due.one(x.cover(0, far, true)));
    }

    @Sentence(promise = 3, says = "Throws `IndexOutOfBoundsException` as told, of both")
    static void coverNotOfAPointOutsideRefused() {
        Due.refused(Due.OUTSIDE, x -> Due.one(x.cover(0, 10, false)));
        Due.refused(Due.OUTSIDE, x -> Due.one(x.cover(3, 0, false)));
    }

    @Sentence(promise = 3, says = "There are up to 6 elements, from 0, as many as were told last")
    static void coverByTheFirstAndTheLast() {
        coversOne(0, 4);
        coversOne(5, 4);
    }

    @Sentence(promise = 3, says = "Throws `IndexOutOfBoundsException` as told, of both")
    static void coverElementBelowFirstRefused() {
        Due.refused(Due.OUTSIDE, x -> Due.one(x.cover(-1, 0, true)));
    }

    @Sentence(promise = 3, says = "Throws `IndexOutOfBoundsException` as told, of both")
    static void coverElementBehindLastRefused() {
        Due.elementBehindLastRefused((x, behind) -> Due.one(x.cover(behind, 0, true)));
    }

    @Sentence(promise = 3, says = "Throws `IndexOutOfBoundsException` as told, of both")
    static void coverElementFarRefused() {
        Due.farRefused(Due.OUTSIDE, 0, 2, (x, far) -> Due.one(x.cover(far, 0, true)));
    }

    @Sentence(promise = 3, says = "Throws `IndexOutOfBoundsException` as told, of both")
    static void coverBothOutsideRefused() {
        Due.refused(Due.OUTSIDE, x -> Due.one(x.cover(3, 10, true)));
    }

    @Sentence(promise = 3, says = "Returns whether it did.")
    static void coverNotWhatWasNotCovered() {
        Submodulary x = Due.bare();
        Due.due("cover(1, 2, false)", x.cover(1, 2, false), false);
        Due.due("cover(1, 2, false) again", x.cover(1, 2, false), false);
    }

    @Sentence(promise = 3, says = "Returns whether it did.")
    static void coverWhatWasCovered() {
        Submodulary x = Due.bare();
        Due.due("cover(1, 2, true)", x.cover(1, 2, true), false);
        Due.due("cover(1, 2, true) again", x.cover(1, 2, true), true);
        Due.due("cover(1, 2, false)", x.cover(1, 2, false), true);
        Due.due("cover(1, 2, false) again", x.cover(1, 2, false), false);
    }

    @Sentence(promise = 3, says = "Returns whether it did.")
    static void coverHoldsEachCellForItself() {
        Submodulary x = Due.fresh(6);
        for (int cell = 0; cell < 60; cell++) {
            x.cover(cell / 10, cell % 10, cell % 7 < 3);
        }
        for (int cell = 0; cell < 60; cell++) {
            Due.due("cover of cell " + cell, x.cover(cell / 10, cell % 10, false), cell % 7 < 3);
        }
    }

    /** Of six elements, one covers one point: it alone does, and that point alone. */
    private static void coversOne(int element, int point) {
        Submodulary x = Due.fresh(6);
        Due.due("cover(" + element + ", " + point + ")", x.cover(element, point, true), false);
        for (int cell = 0; cell < 60; cell++) {
            Due.due("cover of cell " + cell, x.cover(cell / 10, cell % 10, false), cell == element * 10 + point);
        }
    }

    // ---- promise 4: edge

    @Sentence(promise = 4, says = "`weight`: 0 to 20")
    static void edgeLeastWeight() {
        Submodulary x = Due.told();
        Due.due("edge(0, 1, 0)", x.edge(0, 1, 0), 3);
        Due.due("edge after it", x.edge(0, 1, 1), 0);
    }

    @Sentence(promise = 4, says = "`weight`: 0 to 20")
    static void edgeGreatestWeight() {
        Submodulary x = Due.told();
        Due.due("edge(0, 1, 20)", x.edge(0, 1, 20), 3);
        Due.due("edge after it", x.edge(0, 1, 1), 20);
    }

    @Sentence(promise = 4, says = "if both are the same, or weight is out of range")
    static void edgeWeightBelowLeastRefused() {
        Due.refused(Due.ARGUMENT, x -> x.edge(0, 1, -1));
    }

    @Sentence(promise = 4, says = "if both are the same, or weight is out of range")
    static void edgeWeightAboveGreatestRefused() {
        Due.refused(Due.ARGUMENT, x -> x.edge(0, 1, 21));
    }

    @Sentence(promise = 4, says = "if both are the same, or weight is out of range")
    static void edgeWeightFarRefused() {
        Due.farRefused(Due.ARGUMENT, 0, 20, (x, far) -> x.edge(0, 1, far));
    }

    @Sentence(promise = 4, says = "if both are the same, or weight is out of range")
    static void edgeOfEachToItselfRefused() {
        for (int element = 0; element < 3; element++) {
            int same = element;
            Due.refused(Due.ARGUMENT, x -> x.edge(same, same, 1));
        }
    }

    @Sentence(promise = 4, says = "if both are the same, or weight is out of range")
    static void edgeToItselfWithoutWeightRefused() {
        Due.refused(Due.ARGUMENT, x -> x.edge(1, 1, 0));
    }

    @Sentence(promise = 4, says = "if both are the same, or weight is out of range")
    static void edgeToItselfOfTheOnlyOneRefused() {
        Due.refused(() -> Due.fresh(1), Due.ARGUMENT, x -> x.edge(0, 0, 1));
    }

    @Sentence(promise = 4, says = "Throws `IndexOutOfBoundsException` as told, of both elements")
    static void edgeElementBelowFirstRefused() {
        Due.refused(Due.OUTSIDE, x -> x.edge(-1, 0, 1));
    }

    @Sentence(promise = 4, says = "Throws `IndexOutOfBoundsException` as told, of both elements")
    static void edgeOtherBelowFirstRefused() {
        Due.refused(Due.OUTSIDE, x -> x.edge(0, -1, 1));
    }

    @Sentence(promise = 4, says = "Throws `IndexOutOfBoundsException` as told, of both elements")
    static void edgeElementBehindLastRefused() {
        Due.elementBehindLastRefused((x, behind) -> x.edge(behind, 0, 1));
    }

    @Sentence(promise = 4, says = "Throws `IndexOutOfBoundsException` as told, of both elements")
    static void edgeOtherBehindLastRefused() {
        Due.elementBehindLastRefused((x, behind) -> x.edge(0, behind, 1));
    }

    @Sentence(promise = 4, says = "Throws `IndexOutOfBoundsException` as told, of both elements")
    static void edgeElementFarRefused() {
        Due.farRefused(Due.OUTSIDE, 0, 2, (x, far) -> x.edge(far, 0, 1));
    }

    @Sentence(promise = 4, says = "Throws `IndexOutOfBoundsException` as told, of both elements")
    static void edgeOtherFarRefused() {
        Due.farRefused(Due.OUTSIDE, 0, 2, (x, far) -> x.edge(0, far, 1));
    }

    @Sentence(promise = 4, says = "If several apply, the one that is named first in the throws clause is thrown")
    static void edgeOutsideAheadOfBothTheSame() {
        Due.refused(Due.OUTSIDE, x -> x.edge(3, 3, 1));
        Due.refused(Due.OUTSIDE, x -> x.edge(-1, -1, 1));
    }

    @Sentence(promise = 4, says = "If several apply, the one that is named first in the throws clause is thrown")
    static void edgeElementOutsideAheadOfWeight() {
        Due.refused(Due.OUTSIDE, x -> x.edge(3, 0, 21));
        Due.refused(Due.OUTSIDE, x -> x.edge(-1, 0, -1));
    }

    @Sentence(promise = 4, says = "If several apply, the one that is named first in the throws clause is thrown")
    static void edgeOtherOutsideAheadOfWeight() {
        Due.refused(Due.OUTSIDE, x -> x.edge(0, 3, 21));
        Due.refused(Due.OUTSIDE, x -> x.edge(0, -1, -1));
    }

    @Sentence(promise = 4, says = "between each two elements there is one edge, for both ways")
    static void edgeIsOneForBothWays() {
        Submodulary x = Due.fresh(6);
        Due.due("edge(0, 5, 9)", x.edge(0, 5, 9), 0);
        Due.due("edge(5, 0, 4)", x.edge(5, 0, 4), 9);
        Due.due("edge(0, 5, 0)", x.edge(0, 5, 0), 4);
    }

    @Sentence(promise = 4, says = "Returns the one before.")
    static void edgeHoldsEachPairForItself() {
        Submodulary x = Due.fresh(6);
        for (int one = 0; one < 6; one++) {
            for (int two = one + 1; two < 6; two++) {
                Due.due("edge of " + one + ", " + two, x.edge(one, two, (one * 6 + two) % 21), 0);
            }
        }
        for (int one = 0; one < 6; one++) {
            for (int two = one + 1; two < 6; two++) {
                Due.due("edge of " + two + ", " + one, x.edge(two, one, 0), (one * 6 + two) % 21);
            }
        }
    }

    // ---- promise 5: colour

    @Sentence(promise = 5, says = "`family`: 0 or 1")
    static void colourInEachFamilyForItself() {
        Submodulary x = Due.bare();
        Due.due("colour(0, 0, 3)", x.colour(0, 0, 3), 0);
        Due.due("colour(1, 0, 4)", x.colour(1, 0, 4), 0);
        Due.due("colour(0, 0, 0)", x.colour(0, 0, 0), 3);
        Due.due("colour(1, 0, 0)", x.colour(1, 0, 0), 4);
    }

    @Sentence(promise = 5, says = "Throws `IndexOutOfBoundsException` as told")
    static void colourFamilyBelowFirstRefused() {
        Due.refused(Due.OUTSIDE, x -> x.colour(-1, 0, 0));
    }

    @Sentence(promise = 5, says = "Throws `IndexOutOfBoundsException` as told")
    static void colourFamilyBehindLastRefused() {
        Due.refused(Due.OUTSIDE, x -> x.colour(2, 0, 0));
    }

    @Sentence(promise = 5, says = "Throws `IndexOutOfBoundsException` as told")
    static void colourFamilyFarRefused() {
        Due.farRefused(Due.OUTSIDE, 0, 1, (x, far) -> x.colour(far, 0, 0));
    }

    @Sentence(promise = 5, says = "`colour`: 0 to 5")
    static void colourFirst() {
        Submodulary x = Due.told();
        Due.due("colour(0, 1, 0)", x.colour(0, 1, 0), 4);
        Due.due("colour after it", x.colour(0, 1, 1), 0);
    }

    @Sentence(promise = 5, says = "`colour`: 0 to 5")
    static void colourLast() {
        Submodulary x = Due.told();
        Due.due("colour(0, 1, 5)", x.colour(0, 1, 5), 4);
        Due.due("colour after it", x.colour(0, 1, 1), 5);
    }

    @Sentence(promise = 5, says = "Throws `IndexOutOfBoundsException` as told")
    static void colourBelowFirstRefused() {
        Due.refused(Due.OUTSIDE, x -> x.colour(0, 0, -1));
    }

    @Sentence(promise = 5, says = "Throws `IndexOutOfBoundsException` as told")
    static void colourBehindLastRefused() {
        Due.refused(Due.OUTSIDE, x -> x.colour(0, 0, 6));
    }

    @Sentence(promise = 5, says = "Throws `IndexOutOfBoundsException` as told")
    static void colourFarRefused() {
        Due.farRefused(Due.OUTSIDE, 0, 5, (x, far) -> x.colour(1, 0, far));
    }

    @Sentence(promise = 5, says = "Throws `IndexOutOfBoundsException` as told")
    static void colourElementBelowFirstRefused() {
        Due.refused(Due.OUTSIDE, x -> x.colour(1, -1, 0));
    }

    @Sentence(promise = 5, says = "Throws `IndexOutOfBoundsException` as told")
    static void colourElementBehindLastRefused() {
        Due.elementBehindLastRefused((x, behind) -> x.colour(0, behind, 1));
        Due.elementBehindLastRefused((x, behind) -> x.colour(1, behind, 1));
    }

    @Sentence(promise = 5, says = "Throws `IndexOutOfBoundsException` as told")
    static void colourElementFarRefused() {
        Due.farRefused(Due.OUTSIDE, 0, 2, (x, far) -> x.colour(0, far, 1));
    }

    @Sentence(promise = 5, says = "Returns the one before.")
    static void colourHoldsEachCellForItself() {
        Submodulary x = Due.fresh(6);
        for (int cell = 0; cell < 12; cell++) {
            Due.due("colour of cell " + cell, x.colour(cell / 6, cell % 6, (cell * 5 + 1) % 6), 0);
        }
        for (int cell = 0; cell < 12; cell++) {
            Due.due("colour of cell " + cell + " again", x.colour(cell / 6, cell % 6, 0), (cell * 5 + 1) % 6);
        }
    }

    // ---- promise 6: room

    @Sentence(promise = 6, says = "`family`: 0 or 1")
    static void roomInEachFamilyForItself() {
        Submodulary x = Due.bare();
        Due.due("room(0, 0, 3)", x.room(0, 0, 3), 1);
        Due.due("room(1, 0, 4)", x.room(1, 0, 4), 1);
        Due.due("room(0, 0, 0)", x.room(0, 0, 0), 3);
        Due.due("room(1, 0, 0)", x.room(1, 0, 0), 4);
    }

    @Sentence(promise = 6, says = "Throws `IndexOutOfBoundsException` as told")
    static void roomFamilyBelowFirstRefused() {
        Due.refused(Due.OUTSIDE, x -> x.room(-1, 5, 2));
    }

    @Sentence(promise = 6, says = "Throws `IndexOutOfBoundsException` as told")
    static void roomFamilyBehindLastRefused() {
        Due.refused(Due.OUTSIDE, x -> x.room(2, 0, 2));
    }

    @Sentence(promise = 6, says = "Throws `IndexOutOfBoundsException` as told")
    static void roomFamilyFarRefused() {
        Due.farRefused(Due.OUTSIDE, 0, 1, (x, far) -> x.room(far, 0, 2));
    }

    @Sentence(promise = 6, says = "`colour`: 0 to 5")
    static void roomOfTheFirstAndTheLastColour() {
        Submodulary x = Due.fresh(1);
        Due.due("room(0, 0, 4)", x.room(0, 0, 4), 1);
        Due.due("room(0, 5, 3)", x.room(0, 5, 3), 1);
        Due.due("room(0, 0, 0)", x.room(0, 0, 0), 4);
        Due.due("room(0, 5, 0)", x.room(0, 5, 0), 3);
    }

    @Sentence(promise = 6, says = "Throws `IndexOutOfBoundsException` as told")
    static void roomColourBelowFirstRefused() {
        Due.refused(Due.OUTSIDE, x -> x.room(1, -1, 2));
    }

    @Sentence(promise = 6, says = "Throws `IndexOutOfBoundsException` as told")
    static void roomColourBehindLastRefused() {
        Due.refused(Due.OUTSIDE, x -> x.room(0, 6, 2));
    }

    @Sentence(promise = 6, says = "Throws `IndexOutOfBoundsException` as told")
    static void roomColourFarRefused() {
        Due.farRefused(Due.OUTSIDE, 0, 5, (x, far) -> x.room(0, far, 2));
    }

    @Sentence(promise = 6, says = "`room`: 0 to 6")
    static void roomLeast() {
        Submodulary x = Due.told();
        Due.due("room(0, 3, 0)", x.room(0, 3, 0), 3);
        Due.due("room after it", x.room(0, 3, 1), 0);
    }

    @Sentence(promise = 6, says = "`room`: 0 to 6")
    static void roomGreatest() {
        Submodulary x = Due.told();
        Due.due("room(0, 3, 6)", x.room(0, 3, 6), 3);
        Due.due("room after it", x.room(0, 3, 1), 6);
    }

    @Sentence(promise = 6, says = "Throws `IllegalArgumentException` if room is out of range")
    static void roomBelowLeastRefused() {
        Due.refused(Due.ARGUMENT, x -> x.room(0, 3, -1));
    }

    @Sentence(promise = 6, says = "Throws `IllegalArgumentException` if room is out of range")
    static void roomAboveGreatestRefused() {
        Due.refused(Due.ARGUMENT, x -> x.room(0, 3, 7));
    }

    @Sentence(promise = 6, says = "Throws `IllegalArgumentException` if room is out of range")
    static void roomFarRefused() {
        Due.farRefused(Due.ARGUMENT, 0, 6, (x, far) -> x.room(1, 5, far));
    }

    @Sentence(promise = 6, says = "If several apply, the one that is named first in the throws clause is thrown")
    static void roomFamilyOutsideAheadOfRoom() {
        Due.refused(Due.OUTSIDE, x -> x.room(2, 0, 7));
        Due.refused(Due.OUTSIDE, x -> x.room(-1, 0, -1));
    }

    @Sentence(promise = 6, says = "If several apply, the one that is named first in the throws clause is thrown")
    static void roomColourOutsideAheadOfRoom() {
        Due.refused(Due.OUTSIDE, x -> x.room(0, 6, 7));
        Due.refused(Due.OUTSIDE, x -> x.room(0, -1, -1));
    }

    @Sentence(promise = 6, says = "Returns the one before.")
    static void roomHoldsEachCellForItself() {
        Submodulary x = Due.bare();
        for (int cell = 0; cell < 12; cell++) {
            Due.due("room of cell " + cell, x.room(cell / 6, cell % 6, cell * 3 % 7), 1);
        }
        for (int cell = 0; cell < 12; cell++) {
            Due.due("room of cell " + cell + " again", x.room(cell / 6, cell % 6, 1), cell * 3 % 7);
        }
    }

    // ---- promise 7: weigh

    @Sentence(promise = 7, says = "`weight`: -20 to 20")
    static void weighLeast() {
        Submodulary x = Due.told();
        Due.due("weigh(2, -20)", x.weigh(2, -20), 3);
        Due.due("weigh after it", x.weigh(2, 0), -20);
    }

    @Sentence(promise = 7, says = "`weight`: -20 to 20")
    static void weighGreatest() {
        Submodulary x = Due.told();
        Due.due("weigh(2, 20)", x.weigh(2, 20), 3);
        Due.due("weigh after it", x.weigh(2, 0), 20);
    }

    @Sentence(promise = 7, says = "Throws `IllegalArgumentException` if weight is out of range")
    static void weighBelowLeastRefused() {
        Due.refused(Due.ARGUMENT, x -> x.weigh(2, -21));
    }

    @Sentence(promise = 7, says = "Throws `IllegalArgumentException` if weight is out of range")
    static void weighAboveGreatestRefused() {
        Due.refused(Due.ARGUMENT, x -> x.weigh(2, 21));
    }

    @Sentence(promise = 7, says = "Throws `IllegalArgumentException` if weight is out of range")
    static void weighFarRefused() {
        Due.farRefused(Due.ARGUMENT, -20, 20, (x, far) -> x.weigh(2, far));
    }

    @Sentence(promise = 7, says = "Throws `IndexOutOfBoundsException` as told")
    static void weighElementBelowFirstRefused() {
        Due.refused(Due.OUTSIDE, x -> x.weigh(-1, 0));
    }

    @Sentence(promise = 7, says = "Throws `IndexOutOfBoundsException` as told")
    static void weighElementBehindLastRefused() {
        Due.elementBehindLastRefused((x, behind) -> x.weigh(behind, 20));
    }

    @Sentence(promise = 7, says = "Throws `IndexOutOfBoundsException` as told")
    static void weighElementFarRefused() {
        Due.farRefused(Due.OUTSIDE, 0, 2, (x, far) -> x.weigh(far, 0));
    }

    @Sentence(promise = 7, says = "If several apply, the one that is named first in the throws clause is thrown")
    static void weighOutsideAheadOfWeight() {
        Due.refused(Due.OUTSIDE, x -> x.weigh(3, 21));
        Due.refused(Due.OUTSIDE, x -> x.weigh(-1, -21));
    }

    @Sentence(promise = 7, says = "Returns the one before.")
    static void weighHoldsEachForItself() {
        Submodulary x = Due.fresh(6);
        for (int element = 0; element < 6; element++) {
            Due.due("weigh of " + element, x.weigh(element, 7 * element - 17), 0);
        }
        for (int element = 0; element < 6; element++) {
            Due.due("weigh of " + element + " again", x.weigh(element, 0), 7 * element - 17);
        }
    }
}
