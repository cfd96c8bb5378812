import java.util.Arrays;

/**
 * Functions of sets of at most six elements, a set told by bits: made of what is told, summed,
 * contracted and capped, and looked at for the law of lessening returns and for what follows of it.
 */
public final class Submodulary {
    public static final int NONE = -1;
    public static final int COVER = 0, CUT = 1, RANK_ONE = 2, RANK_TWO = 3, WEIGHTS = 4;

    private static final int FIRST_ELEMENTS = 4;
    private static final int MOST_ELEMENTS = 6;
    private static final int MOST_SETS = 64;
    private static final int MOST_FUNCTIONS = 8;
    private static final int POINTS = 10;
    private static final int FAMILIES = 2;
    private static final int COLOURS = 6;
    private static final int FIRST_ROOM = 1;
    private static final int MOST_ROOM = 6;
    private static final int MOST_EDGE = 20;
    private static final int MOST_WEIGHT = 20;
    private static final int MOST_CAP = 100;
    private static final int UNREACHED = -2;

    private int elements;
    private int functions;
    private int told;

    /** The points that an element covers, as bits. */
    private final int[] covered;
    /** Weights of edges by both elements, both ways alike. */
    private final int[] edges;
    /** Colours by family and element. */
    private final int[] colours;
    /** Rooms by family and colour. */
    private final int[] rooms;
    private final int[] weights;
    /** Values by function and set; what lies beyond the functions or the sets there are is never read. */
    private final int[] values;
    private final int[] ordered;
    /** For the search of augmenting paths: the element ahead of each on its path, and the elements reached. */
    private final int[] cameFrom;
    private final int[] reached;

    public Submodulary() {
        elements = FIRST_ELEMENTS;
        functions = 0;
        told = 0;
        covered = new int[MOST_ELEMENTS];
        edges = new int[MOST_ELEMENTS * MOST_ELEMENTS];
        colours = new int[FAMILIES * MOST_ELEMENTS];
        rooms = new int[FAMILIES * COLOURS];
        weights = new int[MOST_ELEMENTS];
        values = new int[MOST_FUNCTIONS * MOST_SETS];
        ordered = new int[MOST_ELEMENTS];
        cameFrom = new int[MOST_ELEMENTS];
        reached = new int[MOST_ELEMENTS];
        Arrays.fill(rooms, FIRST_ROOM);
    }

    // ---- what is told

    public int elements(int many) throws IllegalArgumentException {
        needArgument(isWithin(many, 1, MOST_ELEMENTS));
        int before = elements;
        elements = many;
        functions = 0;
        told = 0;
        Arrays.fill(covered, 0);
        Arrays.fill(edges, 0);
        Arrays.fill(colours, 0);
        Arrays.fill(rooms, FIRST_ROOM);
        Arrays.fill(weights, 0);
        return before;
    }

    public boolean cover(int element, int point, boolean is) throws IndexOutOfBoundsException {
        needIndex(isElement(element) && isWithin(point, 0, POINTS - 1));
        int before = at(covered, element);
        put(covered, element, is ? with(before, point) : without(before, point));
        return has(before, point);
    }

    public int edge(int element, int other, int weight) throws IndexOutOfBoundsException, IllegalArgumentException {
        needIndex(isElement(element) && isElement(other));
        needArgument(element != other && isWithin(weight, 0, MOST_EDGE));
        int before = edgeWeight(element, other);
        put(edges, element * MOST_ELEMENTS + other, weight);
        put(edges, other * MOST_ELEMENTS + element, weight);
        return before;
    }

    public int colour(int family, int element, int colour) throws IndexOutOfBoundsException {
        needIndex(isFamily(family) && isElement(element) && isColour(colour));
        int before = colourOf(family, element);
        put(colours, family * MOST_ELEMENTS + element, colour);
        return before;
    }

    public int room(int family, int colour, int room) throws IndexOutOfBoundsException, IllegalArgumentException {
        needIndex(isFamily(family) && isColour(colour));
        needArgument(isWithin(room, 0, MOST_ROOM));
        int before = roomOf(family, colour);
        put(rooms, family * COLOURS + colour, room);
        return before;
    }

    public int weigh(int element, int weight) throws IndexOutOfBoundsException, IllegalArgumentException {
        needIndex(isElement(element));
        needArgument(isWithin(weight, -MOST_WEIGHT, MOST_WEIGHT));
        int before = at(weights, element);
        put(weights, element, weight);
        return before;
    }

    // ---- functions

    public int make(int kind) throws IllegalArgumentException, IllegalStateException {
        needArgument(isWithin(kind, COVER, WEIGHTS));
        needPlace();
        for (int set = 0; set < sets(); set++) {
            putNew(set, toldValue(kind, set));
        }
        return countNew();
    }

    public int sum(int function, int other) throws IndexOutOfBoundsException, IllegalStateException {
        needIndex(isFunction(function) && isFunction(other));
        needPlace();
        for (int set = 0; set < sets(); set++) {
            putNew(set, valueOf(function, set) + valueOf(other, set));
        }
        return countNew();
    }

    public int contract(int function, int set)
            throws IndexOutOfBoundsException, IllegalArgumentException, IllegalStateException {
        needIndex(isFunction(function));
        needArgument(isSet(set));
        needPlace();
        for (int part = 0; part < sets(); part++) {
            putNew(part, valueOf(function, part | set) - valueOf(function, set));
        }
        return countNew();
    }

    public int cap(int function, int most)
            throws IndexOutOfBoundsException, IllegalArgumentException, IllegalStateException {
        needIndex(isFunction(function));
        needArgument(isWithin(most, 0, MOST_CAP));
        needPlace();
        for (int set = 0; set < sets(); set++) {
            putNew(set, Math.min(valueOf(function, set), most));
        }
        return countNew();
    }

    public int value(int function, int set) throws IndexOutOfBoundsException, IllegalArgumentException {
        needIndex(isFunction(function));
        needArgument(isSet(set));
        return valueOf(function, set);
    }

    public boolean isLawful(int function) throws IndexOutOfBoundsException {
        needIndex(isFunction(function));
        return hasLaw(function);
    }

    public boolean rises(int function) throws IndexOutOfBoundsException {
        needIndex(isFunction(function));
        // steps by one element are enough: each set comes from each of its parts by such steps
        for (int set = 0; set < sets(); set++) {
            for (int element = 0; element < elements; element++) {
                if (gain(function, set, element) < 0) {
                    return false;
                }
            }
        }
        return true;
    }

    // ---- least values, corners

    public int least(int function) throws IndexOutOfBoundsException, IllegalStateException {
        needIndex(isFunction(function));
        needState(hasLaw(function));
        return valueOf(function, leastBetween(function, 0, sets() - 1, false, 0));
    }

    public int leastSet(int function, boolean isGreatest) throws IndexOutOfBoundsException, IllegalStateException {
        needIndex(isFunction(function));
        needState(hasLaw(function));
        return leastBetween(function, 0, sets() - 1, isGreatest, 0);
    }

    public int leastSetAnew(int function, boolean isGreatest) throws IndexOutOfBoundsException, IllegalStateException {
        needIndex(isFunction(function));
        needState(hasLaw(function));
        int least = 0;
        for (int set = 0; set < sets(); set++) {
            least = Math.min(least, valueOf(function, set));
        }
        int met = sets() - 1;
        int together = 0;
        for (int set = 0; set < sets(); set++) {
            if (valueOf(function, set) == least) {
                met &= set;
                together |= set;
            }
        }
        return isGreatest ? together : met;
    }

    public int order(int element) throws IndexOutOfBoundsException, IllegalStateException {
        needIndex(isElement(element));
        boolean isWhole = told >= elements;
        needState(isWhole || !isTold(element));
        if (isWhole) {
            told = 0;
        }
        put(ordered, told, element);
        told++;
        return told;
    }

    public int corner(int function, int element) throws IndexOutOfBoundsException, IllegalStateException {
        needIndex(isFunction(function) && isElement(element));
        needState(isTold(element));
        return gain(function, aheadOf(element), element);
    }

    // ---- greed, colours met, shares

    public int greedy(int function, int many) throws IndexOutOfBoundsException, IllegalArgumentException {
        needIndex(isFunction(function));
        needArgument(isWithin(many, 0, MOST_ELEMENTS));
        int taken = 0;
        for (int round = 0; round < many; round++) {
            int next = greediest(function, taken);
            if (next == NONE) {
                return taken;
            }
            taken = with(taken, next);
        }
        return taken;
    }

    public int best(int function, int many) throws IndexOutOfBoundsException, IllegalArgumentException {
        needIndex(isFunction(function));
        needArgument(isWithin(many, 0, MOST_ELEMENTS));
        int greatest = 0;
        for (int set = 0; set < sets(); set++) {
            if (Integer.bitCount(set) <= many) {
                greatest = Math.max(greatest, valueOf(function, set));
            }
        }
        return greatest;
    }

    public int common() {
        int taken = 0;
        for (int round = 0; round < elements; round++) {
            int end = endOfPath(taken);
            if (end == NONE) {
                return Integer.bitCount(taken);
            }
            taken = flippedAlong(taken, end);
        }
        return Integer.bitCount(taken);
    }

    public int commonAnew() {
        int greatest = 0;
        for (int set = 0; set < sets(); set++) {
            if (isFair(0, set) && isFair(1, set)) {
                greatest = Math.max(greatest, Integer.bitCount(set));
            }
        }
        return greatest;
    }

    public int share(int function, int element) throws IndexOutOfBoundsException {
        needIndex(isFunction(function) && isElement(element));
        int sum = 0;
        for (int ahead = 0; ahead < sets(); ahead++) {
            if (!has(ahead, element)) {
                int many = Integer.bitCount(ahead);
                int orders = ordersOf(many) * ordersOf(elements - 1 - many);
                sum += orders * gain(function, ahead, element);
            }
        }
        return sum;
    }

    public int shareAnew(int function, int element) throws IndexOutOfBoundsException {
        needIndex(isFunction(function) && isElement(element));
        return gainsOverOrders(function, element, 0, 0, 0);
    }

    // ---- what is asked of arguments and state

    private static void needIndex(boolean is) {
        if (!is) {
            throw new IndexOutOfBoundsException("there is no such element, point, family, colour or function");
        }
    }

    private static void needArgument(boolean is) {
        if (!is) {
            throw new IllegalArgumentException("an argument is out of its range");
        }
    }

    private static void needState(boolean is) {
        if (!is) {
            throw new IllegalStateException("this is not asked now");
        }
    }

    private void needPlace() {
        needState(functions < MOST_FUNCTIONS);
    }

    private static boolean isWithin(int number, int from, int to) {
        return number >= from && number <= to;
    }

    private boolean isElement(int element) {
        return element >= 0 && element < elements;
    }

    private static boolean isFamily(int family) {
        return family >= 0 && family < FAMILIES;
    }

    private static boolean isColour(int colour) {
        return colour >= 0 && colour < COLOURS;
    }

    private boolean isFunction(int function) {
        return function >= 0 && function < functions;
    }

    private boolean isSet(int set) {
        return set >= 0 && set < sets();
    }

    // ---- rows: each index is tested here, so that no other place has to

    private static int at(int[] row, int index) {
        return index >= 0 && index < row.length ? row[index] : 0;
    }

    private static void put(int[] row, int index, int number) {
        if (index >= 0 && index < row.length) {
            row[index] = number;
        }
    }

    private int edgeWeight(int element, int other) {
        return at(edges, element * MOST_ELEMENTS + other);
    }

    private int colourOf(int family, int element) {
        return at(colours, family * MOST_ELEMENTS + element);
    }

    private int roomOf(int family, int colour) {
        return at(rooms, family * COLOURS + colour);
    }

    private int valueOf(int function, int set) {
        return at(values, function * MOST_SETS + set);
    }

    private void putNew(int set, int value) {
        put(values, functions * MOST_SETS + set, value);
    }

    /** Lets the function whose values stand behind all others be one of them, and returns its number. */
    private int countNew() {
        int number = functions;
        functions++;
        return number;
    }

    // ---- sets

    private int sets() {
        return 1 << elements;
    }

    private static boolean has(int set, int element) {
        return (set >> element & 1) == 1;
    }

    private static int with(int set, int element) {
        return set | 1 << element;
    }

    private static int without(int set, int element) {
        return set & ~(1 << element);
    }

    // ---- values of what is told

    private int toldValue(int kind, int set) {
        switch (kind) {
            case COVER:
                return coverValue(set);
            case CUT:
                return cutValue(set);
            case RANK_ONE:
                return rankValue(0, set);
            case RANK_TWO:
                return rankValue(1, set);
            default:
                return weightsValue(set);
        }
    }

    private int coverValue(int set) {
        int points = 0;
        for (int element = 0; element < elements; element++) {
            if (has(set, element)) {
                points |= at(covered, element);
            }
        }
        return Integer.bitCount(points);
    }

    private int cutValue(int set) {
        int sum = 0;
        for (int element = 0; element < elements; element++) {
            for (int other = element + 1; other < elements; other++) {
                if (has(set, element) != has(set, other)) {
                    sum += edgeWeight(element, other);
                }
            }
        }
        return sum;
    }

    private int rankValue(int family, int set) {
        int sum = 0;
        for (int colour = 0; colour < COLOURS; colour++) {
            sum += Math.min(countOf(family, colour, set), roomOf(family, colour));
        }
        return sum;
    }

    private int weightsValue(int set) {
        int sum = 0;
        for (int element = 0; element < elements; element++) {
            if (has(set, element)) {
                sum += at(weights, element);
            }
        }
        return sum;
    }

    private int countOf(int family, int colour, int set) {
        int count = 0;
        for (int element = 0; element < elements; element++) {
            if (has(set, element) && colourOf(family, element) == colour) {
                count++;
            }
        }
        return count;
    }

    // ---- the law

    /** By how much the value is more with the element than without it, 0 where the set has it. */
    private int gain(int function, int set, int element) {
        return valueOf(function, with(set, element)) - valueOf(function, set);
    }

    private boolean hasLaw(int function) {
        for (int set = 0; set < sets(); set++) {
            if (!hasLawAbove(function, set)) {
                return false;
            }
        }
        return true;
    }

    private boolean hasLawAbove(int function, int set) {
        for (int one = 0; one < elements; one++) {
            for (int two = one + 1; two < elements; two++) {
                boolean isOutside = !has(set, one) && !has(set, two);
                if (isOutside && gain(function, set, one) < gain(function, with(set, two), one)) {
                    return false;
                }
            }
        }
        return true;
    }

    // ---- least values by taking elements in and out

    /**
     * The least, or the greatest, of the sets with the least value among all between two sets, for a
     * function that has the law. What the rules of narrowing leave open is tried in and out; the
     * depth is how many elements were tried already.
     */
    private int leastBetween(int function, int low, int high, boolean isGreatest, int depth) {
        int in = low;
        int out = high;
        for (int round = 0; round < elements; round++) {
            int nextIn = takenIn(function, in, out, isGreatest);
            int nextOut = takenOut(function, nextIn, out, isGreatest);
            if (nextIn == in && nextOut == out) {
                break;
            }
            in = nextIn;
            out = nextOut;
        }
        int open = lowest(out & ~in);
        if (open == NONE || depth >= MOST_ELEMENTS) {
            return in;
        }
        int having = leastBetween(function, with(in, open), out, isGreatest, depth + 1);
        int lacking = leastBetween(function, in, without(out, open), isGreatest, depth + 1);
        int difference = valueOf(function, having) - valueOf(function, lacking);
        return difference < 0 || difference == 0 && isGreatest ? having : lacking;
    }

    /** By the law an element gains nowhere more than with the lowest set: if it lessens there, it does everywhere. */
    private int takenIn(int function, int low, int high, boolean isGreatest) {
        int in = low;
        for (int element = 0; element < elements; element++) {
            if (has(high, element) && !has(in, element)) {
                int most = gain(function, in, element);
                if (most < 0 || most == 0 && isGreatest) {
                    in = with(in, element);
                }
            }
        }
        return in;
    }

    /** By the law an element gains nowhere less than with the highest set: if it adds there, it does everywhere. */
    private int takenOut(int function, int low, int high, boolean isGreatest) {
        int out = high;
        for (int element = 0; element < elements; element++) {
            if (has(out, element) && !has(low, element)) {
                int fewest = gain(function, without(out, element), element);
                if (fewest > 0 || fewest == 0 && !isGreatest) {
                    out = without(out, element);
                }
            }
        }
        return out;
    }

    private int lowest(int set) {
        for (int element = 0; element < elements; element++) {
            if (has(set, element)) {
                return element;
            }
        }
        return NONE;
    }

    // ---- the order

    private boolean isTold(int element) {
        for (int place = 0; place < told; place++) {
            if (at(ordered, place) == element) {
                return true;
            }
        }
        return false;
    }

    private int aheadOf(int element) {
        int ahead = 0;
        for (int place = 0; place < told; place++) {
            int next = at(ordered, place);
            if (next == element) {
                return ahead;
            }
            ahead = with(ahead, next);
        }
        return ahead;
    }

    // ---- greed

    private int greediest(int function, int taken) {
        int next = NONE;
        int most = 0;
        for (int element = 0; element < elements; element++) {
            int gained = gain(function, taken, element);
            if (gained > most) {
                most = gained;
                next = element;
            }
        }
        return next;
    }

    // ---- colours met

    private boolean isFair(int family, int set) {
        for (int colour = 0; colour < COLOURS; colour++) {
            if (countOf(family, colour, set) > roomOf(family, colour)) {
                return false;
            }
        }
        return true;
    }

    private boolean hasRoom(int family, int element, int taken) {
        int colour = colourOf(family, element);
        return !has(taken, element) && countOf(family, colour, taken) < roomOf(family, colour);
    }

    /**
     * The end of a shortest augmenting path, or NONE. A path begins with an element that the first
     * family has room for and ends with one that the second has room for.
     */
    private int endOfPath(int taken) {
        int many = reachFirst(taken);
        for (int head = 0; head < many && head < MOST_ELEMENTS; head++) {
            int from = at(reached, head);
            if (hasRoom(1, from, taken)) {
                return from;
            }
            many = reachFrom(from, taken, many);
        }
        return NONE;
    }

    private int reachFirst(int taken) {
        int many = 0;
        Arrays.fill(cameFrom, UNREACHED);
        for (int element = 0; element < elements; element++) {
            if (hasRoom(0, element, taken)) {
                put(cameFrom, element, NONE);
                put(reached, many, element);
                many++;
            }
        }
        return many;
    }

    private int reachFrom(int from, int taken, int manyBefore) {
        int many = manyBefore;
        for (int to = 0; to < elements; to++) {
            if (at(cameFrom, to) == UNREACHED && isStep(from, to, taken)) {
                put(cameFrom, to, from);
                put(reached, many, to);
                many++;
            }
        }
        return many;
    }

    /** An element to be taken pushes out one of its second colour; in the place of that comes one of its first. */
    private boolean isStep(int from, int to, int taken) {
        int family = has(taken, from) ? 0 : 1;
        return has(taken, from) != has(taken, to) && colourOf(family, from) == colourOf(family, to);
    }

    private int flippedAlong(int taken, int end) {
        int flipped = taken;
        int element = end;
        for (int step = 0; step < elements && element != NONE; step++) {
            flipped ^= 1 << element;
            element = at(cameFrom, element);
        }
        return flipped;
    }

    // ---- shares

    private static int ordersOf(int many) {
        int orders = 1;
        for (int factor = 2; factor <= many; factor++) {
            orders *= factor;
        }
        return orders;
    }

    /** The sum, over all orders that begin with those ahead, of what the element gained or will gain. */
    private int gainsOverOrders(int function, int element, int ahead, int depth, int gained) {
        if (depth >= elements) {
            return gained;
        }
        int sum = 0;
        for (int next = 0; next < elements; next++) {
            if (!has(ahead, next)) {
                int now = next == element ? gain(function, ahead, element) : gained;
                sum += gainsOverOrders(function, element, with(ahead, next), depth + 1, now);
            }
        }
        return sum;
    }
}
