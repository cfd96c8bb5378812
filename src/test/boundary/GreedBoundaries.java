/** Boundary cases of greed, common sets and shares: promises 20 to 25. */
final class GreedBoundaries {
    private GreedBoundaries() {
    }

    /** Where there were six elements of great weights, there are two of small ones; function 0 has their weights. */
    private static Submodulary fewer() {
        Submodulary x = Due.weighed(20, 20, 20, 20, 20, 20);
        x.elements(2);
        x.weigh(0, -1);
        x.weigh(1, 3);
        x.make(Submodulary.WEIGHTS);
        return x;
    }

    /** The first covers most alone; the other two cover more together than it does with either. */
    private static Submodulary misleading() {
        Submodulary x = Due.fresh(3);
        for (int point = 0; point < 6; point++) {
            x.cover(point < 3 ? 1 : 2, point, true);
        }
        for (int point = 1; point < 5; point++) {
            x.cover(0, point, true);
        }
        x.make(Submodulary.COVER);
        return x;
    }

    // ---- promise 20: greedy

    @Sentence(promise = 20, says = "`many`: 0 to 6: at most so many elements")
    static void greedyOfNone() {
        Due.due("greedy(0, 0)", Due.weighed(20, 20, 20).greedy(0, 0), 0);
    }

    @Sentence(promise = 20, says = "`many`: 0 to 6: at most so many elements")
    static void greedyOfAllSix() {
        Due.due("greedy(0, 6)", Due.weighed(1, 1, 1, 1, 1, 1).greedy(0, 6), 63);
    }

    @Sentence(promise = 20, says = "and fewer are taken than may be")
    static void greedyOfEachNumber() {
        Submodulary x = Due.weighed(1, 2, 3, 4, 5, 6);
        int[] want = {0, 32, 48, 56, 60, 62, 63};
        for (int many = 0; many <= 6; many++) {
            Due.due("greedy(0, " + many + ")", x.greedy(0, many), want[many]);
        }
    }

    @Sentence(promise = 20, says = "`many`: 0 to 6: at most so many elements")
    static void greedyOfMoreThanThereAre() {
        Due.due("greedy(0, 6) of one", Due.weighed(1).greedy(0, 6), 1);
        Due.due("greedy(0, 6) of two", Due.weighed(1, 1).greedy(0, 6), 3);
        Due.due("greedy(0, 6) of fewer than before", fewer().greedy(0, 6), 2);
    }

    @Sentence(promise = 20, says = "Throws `IllegalArgumentException` if many is out of range")
    static void greedyOfLessThanNoneRefused() {
        Due.refused(Due.ARGUMENT, x -> x.greedy(0, -1));
    }

    @Sentence(promise = 20, says = "Throws `IllegalArgumentException` if many is out of range")
    static void greedyOfSevenRefused() {
        Due.refused(Due.ARGUMENT, x -> x.greedy(0, 7));
    }

    @Sentence(promise = 20, says = "Throws `IllegalArgumentException` if many is out of range")
    static void greedyOfFarRefused() {
        Due.farRefused(Due.ARGUMENT, 0, 6, (x, far) -> x.greedy(0, far));
    }

    @Sentence(promise = 20, says = "Throws `IndexOutOfBoundsException` as told")
    static void greedyFunctionBelowFirstRefused() {
        Due.refused(Due.OUTSIDE, x -> x.greedy(-1, 1));
    }

    @Sentence(promise = 20, says = "Throws `IndexOutOfBoundsException` as told")
    static void greedyFunctionBehindLastRefused() {
        Due.refused(Due.OUTSIDE, x -> x.greedy(4, 1));
        Due.refused(Due::bare, Due.OUTSIDE, x -> x.greedy(0, 0));
        Due.refused(Due::full, Due.OUTSIDE, x -> x.greedy(8, 1));
    }

    @Sentence(promise = 20, says = "to tell their number, also the same one, makes all functions over")
    static void greedyOfFunctionsThatWereRefused() {
        Due.refused(Due::over, Due.OUTSIDE, x -> x.greedy(0, 1));
        Due.refused(Due::over, Due.OUTSIDE, x -> x.greedy(3, 1));
    }

    @Sentence(promise = 20, says = "Throws `IndexOutOfBoundsException` as told")
    static void greedyFunctionFarRefused() {
        Due.farRefused(Due.OUTSIDE, 0, 3, (x, far) -> x.greedy(far, 1));
    }

    @Sentence(promise = 20, says = "Throws `IndexOutOfBoundsException` as told")
    static void greedyOfTheLastFunction() {
        Due.due("greedy(7, 6)", Due.full().greedy(7, 6), 2);
    }

    @Sentence(promise = 20, says = "If several apply, the one that is named first in the throws clause is thrown")
    static void greedyOutsideAheadOfMany() {
        Due.refused(Due.OUTSIDE, x -> x.greedy(4, 7));
        Due.refused(Due.OUTSIDE, x -> x.greedy(-1, -1));
    }

    @Sentence(promise = 20, says = "as long as it becomes greater by that")
    static void greedyTakesNoneThatLeavesItAlike() {
        Due.due("of nothing", Due.weighed(0, 0, 0, 0, 0, 0).greedy(0, 6), 0);
        Due.due("of one and nothing", Due.weighed(0, 1, 0).greedy(0, 6), 2);
    }

    @Sentence(promise = 20, says = "as long as it becomes greater by that")
    static void greedyTakesOneThatAddsOne() {
        Due.due("of one in three", Due.weighed(-1, 0, 1).greedy(0, 6), 4);
        Due.due("of the only one", Due.weighed(1).greedy(0, 1), 1);
    }

    @Sentence(promise = 20, says = "as long as it becomes greater by that")
    static void greedyTakesNoneThatLessens() {
        Due.due("of less", Due.weighed(-1, -1, -1, -1, -1, -1).greedy(0, 6), 0);
    }

    @Sentence(promise = 20, says = "as long as it becomes greater by that")
    static void greedyStopsThoughTwoStepsWouldAdd() {
        Due.values(addingTogetherAlone(), 3, 0, 0, 0, 10);
        Due.due("greedy(3, 6)", addingTogetherAlone().greedy(3, 6), 0);
    }

    /** Function 3 has nothing of each of two elements alone, and 10 of both together. */
    private static Submodulary addingTogetherAlone() {
        Submodulary x = Due.weighed(10, -10);
        x.cap(0, 0);
        x.weigh(0, 0);
        x.weigh(1, 10);
        x.make(Submodulary.WEIGHTS);
        x.sum(1, 2);
        return x;
    }

    @Sentence(promise = 20, says = "of alike ones the lowest")
    static void greedyTakesTheLowestOfAll() {
        Due.due("of six alike, one", Due.weighed(5, 5, 5, 5, 5, 5).greedy(0, 1), 1);
        Due.due("of six alike, five", Due.weighed(5, 5, 5, 5, 5, 5).greedy(0, 5), 31);
    }

    @Sentence(promise = 20, says = "of alike ones the lowest")
    static void greedyTakesTheLowestOfTheLastTwo() {
        Due.due("of the last two alike", Due.weighed(1, 2, 3, 4, 5, 5).greedy(0, 1), 16);
    }

    @Sentence(promise = 20, says = "beginning with the empty set, the element by which the value becomes greatest")
    static void greedyIsMisled() {
        Due.due("the first alone", misleading().greedy(0, 1), 1);
        Due.due("the first and another", misleading().greedy(0, 2), 3);
    }

    @Sentence(promise = 20, says = "Functions are numbered from 0, at most 8")
    static void greedyOfEachForItself() {
        Submodulary x = Due.between(1, -2, 3, -4, 5, -6);
        int[] want = {32, 0, 21, 0};
        for (int function = 0; function < 4; function++) {
            Due.due("greedy(" + function + ", 6)", x.greedy(function, 6), want[function]);
        }
    }

    // ---- promise 21: best

    @Sentence(promise = 21, says = "`many`: 0 to 6")
    static void bestOfNone() {
        Due.due("best(0, 0)", Due.weighed(20, 20, 20).best(0, 0), 0);
        Due.due("best(0, 0) of less", Due.weighed(-20, -20, -20).best(0, 0), 0);
    }

    @Sentence(promise = 21, says = "`many`: 0 to 6")
    static void bestOfAllSix() {
        Due.due("best(0, 6)", Due.weighed(20, 20, 20, 20, 20, 20).best(0, 6), 120);
    }

    @Sentence(promise = 21, says = "Returns the greatest value of all sets of at most so many elements.")
    static void bestOfEachNumber() {
        Submodulary x = Due.weighed(1, 2, 3, 4, 5, 6);
        int[] want = {0, 6, 11, 15, 18, 20, 21};
        for (int many = 0; many <= 6; many++) {
            Due.due("best(0, " + many + ")", x.best(0, many), want[many]);
        }
    }

    @Sentence(promise = 21, says = "Returns the greatest value of all sets of at most so many elements.")
    static void bestOfFewerThanMayBe() {
        Due.due("of the empty set", Due.weighed(-1, -1).best(0, 2), 0);
        Due.due("of one of three", Due.weighed(-1, 4, -1).best(0, 3), 4);
    }

    @Sentence(promise = 21, says = "Returns the greatest value of all sets of at most so many elements.")
    static void bestWhereGreedIsMisled() {
        Due.due("best(0, 1)", misleading().best(0, 1), 4);
        Due.due("best(0, 2)", misleading().best(0, 2), 6);
        Due.due("best(3, 1)", addingTogetherAlone().best(3, 1), 0);
        Due.due("best(3, 2)", addingTogetherAlone().best(3, 2), 10);
    }

    @Sentence(promise = 21, says = "`many`: 0 to 6")
    static void bestOfMoreThanThereAre() {
        Due.due("best(0, 6) of one", Due.weighed(1).best(0, 6), 1);
        Due.due("best(0, 6) of fewer than before", fewer().best(0, 6), 3);
    }

    @Sentence(promise = 21, says = "Throws `IllegalArgumentException` if many is out of range")
    static void bestOfLessThanNoneRefused() {
        Due.refused(Due.ARGUMENT, x -> x.best(0, -1));
    }

    @Sentence(promise = 21, says = "Throws `IllegalArgumentException` if many is out of range")
    static void bestOfSevenRefused() {
        Due.refused(Due.ARGUMENT, x -> x.best(0, 7));
    }

    @Sentence(promise = 21, says = "Throws `IllegalArgumentException` if many is out of range")
    static void bestOfFarRefused() {
        Due.farRefused(Due.ARGUMENT, 0, 6, (x, far) -> x.best(0, far));
    }

    @Sentence(promise = 21, says = "Throws `IndexOutOfBoundsException` as told")
    static void bestFunctionBelowFirstRefused() {
        Due.refused(Due.OUTSIDE, x -> x.best(-1, 1));
    }

    @Sentence(promise = 21, says = "Throws `IndexOutOfBoundsException` as told")
    static void bestFunctionBehindLastRefused() {
        Due.refused(Due.OUTSIDE, x -> x.best(4, 1));
        Due.refused(Due::bare, Due.OUTSIDE, x -> x.best(0, 0));
        Due.refused(Due::full, Due.OUTSIDE, x -> x.best(8, 1));
    }

    @Sentence(promise = 21, says = "to tell their number, also the same one, makes all functions over")
    static void bestOfFunctionsThatWereRefused() {
        Due.refused(Due::over, Due.OUTSIDE, x -> x.best(0, 1));
        Due.refused(Due::over, Due.OUTSIDE, x -> x.best(3, 1));
    }

    @Sentence(promise = 21, says = "Throws `IndexOutOfBoundsException` as told")
    static void bestFunctionFarRefused() {
        Due.farRefused(Due.OUTSIDE, 0, 3, (x, far) -> x.best(far, 1));
    }

    @Sentence(promise = 21, says = "Throws `IndexOutOfBoundsException` as told")
    static void bestOfTheLastFunction() {
        Due.due("best(7, 6)", Due.full().best(7, 6), 4);
    }

    @Sentence(promise = 21, says = "If several apply, the one that is named first in the throws clause is thrown")
    static void bestOutsideAheadOfMany() {
        Due.refused(Due.OUTSIDE, x -> x.best(4, 7));
        Due.refused(Due.OUTSIDE, x -> x.best(-1, -1));
    }

    @Sentence(promise = 21, says = "Functions are numbered from 0, at most 8")
    static void bestOfEachForItself() {
        Submodulary x = Due.between(1, -2, 3, -4, 5, -6);
        int[] want = {20, 0, 9, 0};
        for (int function = 0; function < 4; function++) {
            Due.due("best(" + function + ", 6)", x.best(function, 6), want[function]);
        }
    }

    // ---- promises 22 and 23: common, commonAnew

    /** The promises 22 and 23, of which the second finds the same by all sets. */
    private static void commonIs(boolean isAnew, Submodulary x, int want) {
        Due.due(isAnew ? "commonAnew" : "common", isAnew ? x.commonAnew() : x.common(), want);
    }

    /** Elements with these colours in the two families. */
    private static Submodulary coloured(int[] first, int[] second) {
        Submodulary x = Due.fresh(first.length);
        for (int element = 0; element < first.length; element++) {
            x.colour(0, element, first[element]);
            x.colour(1, element, second[element]);
        }
        return x;
    }

    private static Submodulary withRooms(Submodulary x, int first, int second) {
        for (int colour = 0; colour < 6; colour++) {
            x.room(0, colour, first);
            x.room(1, colour, second);
        }
        return x;
    }

    @Sentence(promise = 22, says = "A set that is fair in both families, as they are told now, is common.")
    static void commonAsAtFirst() {
        asAtFirst(false);
    }

    @Sentence(promise = 23, says = "A set that is fair in both families, as they are told now, is common.")
    static void commonAnewAsAtFirst() {
        asAtFirst(true);
    }

    private static void asAtFirst(boolean isAnew) {
        commonIs(isAnew, Due.bare(), 1);
        for (int many = 1; many <= 6; many++) {
            commonIs(isAnew, Due.fresh(many), 1);
        }
    }

    @Sentence(promise = 22, says = "if it has at most as many elements of each colour as its room")
    static void commonOfTheEmptySetAlone() {
        withoutRoom(false);
    }

    @Sentence(promise = 23, says = "if it has at most as many elements of each colour as its room")
    static void commonAnewOfTheEmptySetAlone() {
        withoutRoom(true);
    }

    private static void withoutRoom(boolean isAnew) {
        commonIs(isAnew, withRooms(Due.fresh(6), 0, 0), 0);
        commonIs(isAnew, withRooms(Due.fresh(6), 0, 6), 0);
        commonIs(isAnew, withRooms(Due.fresh(6), 6, 0), 0);
        commonIs(isAnew, withRooms(Due.fresh(1), 0, 1), 0);
    }

    @Sentence(promise = 22, says = "Returns how many elements the greatest common set has, found by augmenting paths.")
    static void commonOfAllElements() {
        ofAllElements(false);
    }

    @Sentence(promise = 23, says = "Returns the same, found by all sets.")
    static void commonAnewOfAllElements() {
        ofAllElements(true);
    }

    private static void ofAllElements(boolean isAnew) {
        for (int many = 1; many <= 6; many++) {
            commonIs(isAnew, withRooms(Due.fresh(many), 6, 6), many);
            commonIs(isAnew, withRooms(Due.fresh(many), many, many), many);
            commonIs(isAnew, withRooms(Due.fresh(many), many - 1, many), many - 1);
            commonIs(isAnew, withRooms(Due.fresh(many), many, many - 1), many - 1);
        }
        int[] apart = {0, 1, 2, 3, 4, 5};
        commonIs(isAnew, coloured(apart, apart), 6);
        commonIs(isAnew, coloured(apart, new int[6]), 1);
        commonIs(isAnew, coloured(new int[6], apart), 1);
    }

    @Sentence(promise = 22, says = "Returns how many elements the greatest common set has, found by augmenting paths.")
    static void commonByTheLongestPaths() {
        byLongPaths(false);
    }

    @Sentence(promise = 23, says = "Returns the same, found by all sets.")
    static void commonAnewByTheLongestPaths() {
        byLongPaths(true);
    }

    /** Taken in turn, the lowest elements have to be given up, all of them, for one more of the others. */
    private static void byLongPaths(boolean isAnew) {
        commonIs(isAnew, coloured(new int[] {1, 1, 2}, new int[] {1, 2, 1}), 2);
        commonIs(isAnew, coloured(new int[] {1, 2, 1, 2, 3}, new int[] {1, 2, 4, 1, 2}), 3);
        commonIs(isAnew, coloured(new int[] {1, 2, 3, 1, 2, 4}, new int[] {1, 2, 5, 2, 3, 1}), 4);
        commonIs(isAnew, coloured(new int[] {1, 2, 1, 2, 3, 4}, new int[] {1, 2, 4, 1, 2, 2}), 3);
    }

    @Sentence(promise = 22, says = "Returns how many elements the greatest common set has, found by augmenting paths.")
    static void commonByPathsBesideRoom() {
        byPathsBesideRoom(false);
    }

    @Sentence(promise = 23, says = "Returns the same, found by all sets.")
    static void commonAnewByPathsBesideRoom() {
        byPathsBesideRoom(true);
    }

    /** An element that begins a path can be reached by another path, too: its colour has more room than one. */
    private static void byPathsBesideRoom(boolean isAnew) {
        int[][] first = {{2, 1, 2, 1, 1, 2}, {1, 0, 0, 0, 1, 1}, {0, 0, 0, 1, 1, 1}, {0, 1, 1, 0, 1, 0}};
        int[][] second = {{1, 2, 2, 2, 2, 0}, {0, 2, 2, 0, 0, 1}, {0, 1, 2, 0, 1, 1}, {0, 0, 1, 0, 0, 2}};
        int[][] firstRooms = {{0, 3, 1}, {3, 1, 1}, {2, 2, 1}, {2, 1, 1}};
        int[][] secondRooms = {{1, 0, 2}, {1, 3, 1}, {1, 2, 2}, {2, 2, 0}};
        int[] want = {3, 3, 4, 3};
        for (int each = 0; each < want.length; each++) {
            int[][] colours = {first[each], second[each]};
            int[][] rooms = {firstRooms[each], secondRooms[each]};
            commonIs(isAnew, coloured(colours, rooms), want[each]);
        }
    }

    @Sentence(promise = 22, says = "Returns how many elements the greatest common set has, found by augmenting paths.")
    static void commonOfAllColoursOfFour() {
        ofAllColoursOfFour(false);
    }

    @Sentence(promise = 23, says = "Returns the same, found by all sets.")
    static void commonAnewOfAllColoursOfFour() {
        ofAllColoursOfFour(true);
    }

    private static void ofAllColoursOfFour(boolean isAnew) {
        int[][] rooms = {{1, 1, 1}, {1, 1, 1}};
        for (int kinds = 0; kinds < 81 * 81; kinds++) {
            int[] first = new int[4];
            int[] second = new int[4];
            int rest = kinds;
            for (int element = 0; element < 4; element++) {
                first[element] = rest % 3;
                second[element] = rest / 3 % 3;
                rest /= 9;
            }
            commonIs(isAnew, coloured(first, second), greatestCommon(new int[][] {first, second}, rooms));
        }
    }

    @Sentence(promise = 22, says = "if it has at most as many elements of each colour as its room")
    static void commonOfAllRoomsOfFour() {
        ofAllRoomsOfFour(false);
    }

    @Sentence(promise = 23, says = "if it has at most as many elements of each colour as its room")
    static void commonAnewOfAllRoomsOfFour() {
        ofAllRoomsOfFour(true);
    }

    /** Two colours in each family, each with a room of 0 to 3. */
    private static void ofAllRoomsOfFour(boolean isAnew) {
        int[][] colours = new int[2][4];
        int[][] rooms = new int[2][2];
        for (int kinds = 0; kinds < 256; kinds++) {
            for (int element = 0; element < 4; element++) {
                colours[0][element] = kinds >> element & 1;
                colours[1][element] = kinds >> 4 + element & 1;
            }
            for (int sizes = 0; sizes < 256; sizes++) {
                for (int cell = 0; cell < 4; cell++) {
                    rooms[cell / 2][cell % 2] = sizes >> 2 * cell & 3;
                }
                commonIs(isAnew, coloured(colours, rooms), greatestCommon(colours, rooms));
            }
        }
    }

    private static Submodulary coloured(int[][] colours, int[][] rooms) {
        Submodulary x = coloured(colours[0], colours[1]);
        for (int colour = 0; colour < rooms[0].length; colour++) {
            x.room(0, colour, rooms[0][colour]);
            x.room(1, colour, rooms[1][colour]);
        }
        return x;
    }

    private static int greatestCommon(int[][] colours, int[][] rooms) {
        int greatest = 0;
        for (int set = 0; set < 1 << colours[0].length; set++) {
            if (isFair(set, colours[0], rooms[0]) && isFair(set, colours[1], rooms[1])) {
                greatest = Math.max(greatest, Integer.bitCount(set));
            }
        }
        return greatest;
    }

    private static boolean isFair(int set, int[] colours, int[] rooms) {
        int[] left = rooms.clone();
        for (int element = 0; element < colours.length; element++) {
            if ((set >> element & 1) == 1 && --left[colours[element]] < 0) {
                return false;
            }
        }
        return true;
    }

    @Sentence(promise = 22, says = "A set that is fair in both families, as they are told now, is common.")
    static void commonAsToldNow() {
        asToldNow(false);
    }

    @Sentence(promise = 23, says = "A set that is fair in both families, as they are told now, is common.")
    static void commonAnewAsToldNow() {
        asToldNow(true);
    }

    private static void asToldNow(boolean isAnew) {
        Submodulary x = withRooms(Due.fresh(3), 6, 6);
        x.make(Submodulary.RANK_ONE);
        x.make(Submodulary.RANK_TWO);
        commonIs(isAnew, x, 3);
        x.room(1, 0, 2);
        commonIs(isAnew, x, 2);
        x.room(0, 0, 0);
        commonIs(isAnew, x, 0);
        x.colour(0, 1, 5);
        commonIs(isAnew, x, 1);
        x.elements(3);
        commonIs(isAnew, x, 1);
    }

    @Sentence(promise = 22, says = "There are up to 6 elements, from 0, as many as were told last")
    static void commonOfFewerElementsThanBefore() {
        ofFewerThanBefore(false);
    }

    @Sentence(promise = 23, says = "There are up to 6 elements, from 0, as many as were told last")
    static void commonAnewOfFewerElementsThanBefore() {
        ofFewerThanBefore(true);
    }

    private static void ofFewerThanBefore(boolean isAnew) {
        Submodulary x = withRooms(Due.fresh(6), 6, 6);
        commonIs(isAnew, x, 6);
        x.elements(2);
        commonIs(isAnew, withRooms(x, 6, 6), 2);
    }

    @Sentence(promise = 22, says = "Returns how many elements the greatest common set has, found by augmenting paths.")
    static void commonOfTheLastColourAndElement() {
        ofTheLastColour(false);
    }

    @Sentence(promise = 23, says = "Returns the same, found by all sets.")
    static void commonAnewOfTheLastColourAndElement() {
        ofTheLastColour(true);
    }

    private static void ofTheLastColour(boolean isAnew) {
        Submodulary x = withRooms(Due.fresh(6), 0, 0);
        x.colour(0, 5, 5);
        x.colour(1, 5, 5);
        x.room(0, 5, 1);
        commonIs(isAnew, x, 0);
        x.room(1, 5, 1);
        commonIs(isAnew, x, 1);
    }

    // ---- promises 24 and 25: share, shareAnew

    /** The promises 24 and 25, of which the second finds the same by all orders. */
    private static int share(boolean isAnew, Submodulary x, int function, int element) {
        return isAnew ? x.shareAnew(function, element) : x.share(function, element);
    }

    @Sentence(promise = 24, says = "is the sum, over all orders of all elements")
    static void shareOverAllOrdersOfEachNumber() {
        overAllOrders(false);
    }

    @Sentence(promise = 25, says = "is the sum, over all orders of all elements")
    static void shareAnewOverAllOrdersOfEachNumber() {
        overAllOrders(true);
    }

    private static void overAllOrders(boolean isAnew) {
        int[] orders = {1, 1, 2, 6, 24, 120, 720};
        for (int many = 1; many <= 6; many++) {
            for (int element = 0; element < many; element++) {
                int want = (element + 1) * orders[many];
                Due.due("of " + element + " in " + many, share(isAnew, Due.lessened(many), 0, element), want);
            }
        }
    }

    @Sentence(promise = 24, says = "by how much the value is more with it than with all ahead of it alone")
    static void shareOfPointsCoveredByOthersToo() {
        ofSharedPoints(false);
    }

    @Sentence(promise = 25, says = "by how much the value is more with it than with all ahead of it alone")
    static void shareAnewOfPointsCoveredByOthersToo() {
        ofSharedPoints(true);
    }

    /** Each of six covers one point with all, and one with the next: as first it has two, as last none. */
    private static void ofSharedPoints(boolean isAnew) {
        Submodulary x = Due.fresh(6);
        for (int element = 0; element < 6; element++) {
            x.cover(element, 0, true);
            x.cover(element, 1 + element / 2, true);
        }
        x.make(Submodulary.COVER);
        for (int element = 0; element < 6; element++) {
            Due.due("of " + element, share(isAnew, x, 0, element), 120 + 360);
        }
    }

    @Sentence(promise = 24, says = "is the sum, over all orders of all elements")
    static void shareOfTheGreatestAndTheLeast() {
        ofTheGreatest(false);
    }

    @Sentence(promise = 25, says = "is the sum, over all orders of all elements")
    static void shareAnewOfTheGreatestAndTheLeast() {
        ofTheGreatest(true);
    }

    private static void ofTheGreatest(boolean isAnew) {
        Submodulary x = Due.weighed(20, 0, 0, 0, 0, -20);
        for (int number = 1; number < 8; number++) {
            x.sum(number - 1, number - 1);
        }
        Due.due("of the greatest", share(isAnew, x, 7, 0), 20 * 128 * 720);
        Due.due("of nothing", share(isAnew, x, 7, 3), 0);
        Due.due("of the least", share(isAnew, x, 7, 5), -20 * 128 * 720);
    }

    @Sentence(promise = 24, says = "by how much the value is more with it than with all ahead of it alone")
    static void shareOfOneWithoutTheLaw() {
        Due.due("share(3, 0)", Due.told().share(3, 0), -2 * 20 - 1 - 18 + 2 * 0);
    }

    @Sentence(promise = 25, says = "by how much the value is more with it than with all ahead of it alone")
    static void shareAnewOfOneWithoutTheLaw() {
        Due.due("shareAnew(3, 0)", Due.told().shareAnew(3, 0), -2 * 20 - 1 - 18 + 2 * 0);
    }

    @Sentence(promise = 24, says = "Functions are numbered from 0, at most 8")
    static void shareOfEachForItself() {
        sharesOfEachForItself(false);
    }

    @Sentence(promise = 25, says = "Functions are numbered from 0, at most 8")
    static void shareAnewOfEachForItself() {
        sharesOfEachForItself(true);
    }

    private static void sharesOfEachForItself(boolean isAnew) {
        Submodulary x = Due.between(1, -2, 3, -4, 5, -6);
        Due.due("of 0 in function 0", share(isAnew, x, 0, 0), -20 * 720);
        Due.due("of 5 in function 0", share(isAnew, x, 0, 5), 20 * 720);
        Due.due("of 0 in function 2", share(isAnew, x, 2, 0), 720);
        Due.due("of 5 in function 2", share(isAnew, x, 2, 5), -6 * 720);
    }

    @Sentence(promise = 24, says = "Throws `IndexOutOfBoundsException` as told, of both")
    static void shareFunctionBelowFirstRefused() {
        Due.refused(Due.OUTSIDE, x -> x.share(-1, 0));
    }

    @Sentence(promise = 25, says = "Throws `IndexOutOfBoundsException` as told, of both")
    static void shareAnewFunctionBelowFirstRefused() {
        Due.refused(Due.OUTSIDE, x -> x.shareAnew(-1, 0));
    }

    @Sentence(promise = 24, says = "Throws `IndexOutOfBoundsException` as told, of both")
    static void shareFunctionBehindLastRefused() {
        functionBehindLastRefused(false);
    }

    @Sentence(promise = 25, says = "Throws `IndexOutOfBoundsException` as told, of both")
    static void shareAnewFunctionBehindLastRefused() {
        functionBehindLastRefused(true);
    }

    private static void functionBehindLastRefused(boolean isAnew) {
        Due.refused(Due.OUTSIDE, x -> share(isAnew, x, 4, 0));
        Due.refused(Due::bare, Due.OUTSIDE, x -> share(isAnew, x, 0, 0));
        Due.refused(Due::full, Due.OUTSIDE, x -> share(isAnew, x, 8, 0));
    }

    @Sentence(promise = 24, says = "to tell their number, also the same one, makes all functions over")
    static void shareOfFunctionsThatWereRefused() {
        Due.refused(Due::over, Due.OUTSIDE, x -> x.share(0, 0));
        Due.refused(Due::over, Due.OUTSIDE, x -> x.share(3, 0));
    }

    @Sentence(promise = 24, says = "Throws `IndexOutOfBoundsException` as told, of both")
    static void shareFunctionFarRefused() {
        Due.farRefused(Due.OUTSIDE, 0, 3, (x, far) -> x.share(far, 0));
    }

    @Sentence(promise = 25, says = "to tell their number, also the same one, makes all functions over")
    static void shareAnewOfFunctionsThatWereRefused() {
        Due.refused(Due::over, Due.OUTSIDE, x -> x.shareAnew(0, 0));
        Due.refused(Due::over, Due.OUTSIDE, x -> x.shareAnew(3, 0));
    }

    @Sentence(promise = 25, says = "Throws `IndexOutOfBoundsException` as told, of both")
    static void shareAnewFunctionFarRefused() {
        Due.farRefused(Due.OUTSIDE, 0, 3, (x, far) -> x.shareAnew(far, 0));
    }

    @Sentence(promise = 24, says = "Throws `IndexOutOfBoundsException` as told, of both")
    static void shareElementBelowFirstRefused() {
        Due.refused(Due.OUTSIDE, x -> x.share(0, -1));
    }

    @Sentence(promise = 25, says = "Throws `IndexOutOfBoundsException` as told, of both")
    static void shareAnewElementBelowFirstRefused() {
        Due.refused(Due.OUTSIDE, x -> x.shareAnew(0, -1));
    }

    @Sentence(promise = 24, says = "Throws `IndexOutOfBoundsException` as told, of both")
    static void shareElementBehindLastRefused() {
        Due.elementBehindLastRefused((x, behind) -> x.share(0, behind));
    }

    @Sentence(promise = 25, says = "Throws `IndexOutOfBoundsException` as told, of both")
    static void shareAnewElementBehindLastRefused() {
        Due.elementBehindLastRefused((x, behind) -> x.shareAnew(0, behind));
    }

    @Sentence(promise = 24, says = "Throws `IndexOutOfBoundsException` as told, of both")
    static void shareElementFarRefused() {
        Due.farRefused(Due.OUTSIDE, 0, 2, (x, far) -> x.share(0, far));
    }

    @Sentence(promise = 25, says = "Throws `IndexOutOfBoundsException` as told, of both")
    static void shareAnewElementFarRefused() {
        Due.farRefused(Due.OUTSIDE, 0, 2, (x, far) -> x.shareAnew(0, far));
    }

    @Sentence(promise = 24, says = "Throws `IndexOutOfBoundsException` as told, of both")
    static void shareBothOutsideRefused() {
        Due.refused(Due.OUTSIDE, x -> x.share(4, 3));
    }

    @Sentence(promise = 25, says = "Throws `IndexOutOfBoundsException` as told, of both")
    static void shareAnewBothOutsideRefused() {
        Due.refused(Due.OUTSIDE, x -> x.shareAnew(4, 3));
    }

    @Sentence(promise = 24, says = "is the sum, over all orders of all elements")
    static void shareLeavesTheToldOrderAlone() {
        leavesTheOrderAlone(false);
    }

    @Sentence(promise = 25, says = "is the sum, over all orders of all elements")
    static void shareAnewLeavesTheToldOrderAlone() {
        leavesTheOrderAlone(true);
    }

    private static void leavesTheOrderAlone(boolean isAnew) {
        Submodulary x = Due.told();
        share(isAnew, x, 0, 1);
        Due.due("order(1)", x.order(1), 3);
        Due.due("corner(0, 0)", x.corner(0, 0), -17);
    }
}
