import java.util.ArrayList;
import java.util.List;

/**
 * Runs of calls, the same at each start, answered by the class and by a model that follows the
 * document's words by all sets, all pairs of sets and all orders; each answer or exception has to be alike.
 */
public final class ModelTest {
    private static final int RUNS = 1500;
    private static final int CALLS = 512;
    private static final int METHODS = 24;
    private static final String[] NAMES = {
        "elements", "cover", "edge", "colour", "room", "weigh", "make", "sum", "contract", "cap", "value", "isLawful",
        "rises", "least", "leastSet", "leastSetAnew", "order", "corner", "greedy", "best", "common", "commonAnew",
        "share", "shareAnew",
    };
    private static final long OUTSIDE = 1L << 40;
    private static final long ARGUMENT = 2L << 40;
    private static final long STATE = 3L << 40;
    private static final long OTHER = 4L << 40;

    private static long seed;

    private static int draw(int below) {
        seed = seed * 6364136223846793005L + 1442695040888963407L;
        return (int) ((seed >>> 33) % below);
    }

    /** Mostly a number that is right, at times one just outside, seldom one far away. */
    private static int near(int from, int to) {
        int kind = draw(60);
        if (kind == 0) {
            return draw(2) == 0 ? from - 1 : to + 1;
        }
        if (kind == 1) {
            int[] far = {Integer.MIN_VALUE, Integer.MAX_VALUE, -1, 64, 512, 1 << 30, from - 7, to + 7};
            return far[draw(far.length)];
        }
        return from + draw(to - from + 1);
    }

    private static final class Model {
        int elements = 4;
        boolean[][] covers = new boolean[6][10];
        int[][] edges = new int[6][6];
        int[][] colours = new int[2][6];
        int[][] rooms = new int[2][6];
        int[] weights = new int[6];
        List<int[]> functions = new ArrayList<>();
        List<Integer> order = new ArrayList<>();

        Model() {
            begin(4);
        }

        void begin(int many) {
            elements = many;
            covers = new boolean[6][10];
            edges = new int[6][6];
            colours = new int[2][6];
            rooms = new int[][] {{1, 1, 1, 1, 1, 1}, {1, 1, 1, 1, 1, 1}};
            weights = new int[6];
            functions = new ArrayList<>();
            order = new ArrayList<>();
        }

        boolean noElement(int element) {
            return element < 0 || element >= elements;
        }

        boolean noFunction(int function) {
            return function < 0 || function >= functions.size();
        }

        boolean noSet(int set) {
            return set < 0 || set >= sets();
        }

        int sets() {
            return 1 << elements;
        }

        static boolean in(int set, int element) {
            return (set & (1 << element)) != 0;
        }

        static boolean out(int number, int from, int to) {
            return number < from || number > to;
        }

        boolean fair(int family, int set) {
            int[] counts = new int[6];
            for (int element = 0; element < elements; element++) {
                if (in(set, element)) {
                    counts[colours[family][element]]++;
                }
            }
            for (int colour = 0; colour < 6; colour++) {
                if (counts[colour] > rooms[family][colour]) {
                    return false;
                }
            }
            return true;
        }

        int rank(int family, int set) {
            int greatest = 0;
            for (int part = 0; part < sets(); part++) {
                if ((part & ~set) == 0 && fair(family, part)) {
                    greatest = Math.max(greatest, Integer.bitCount(part));
                }
            }
            return greatest;
        }

        int toldValue(int kind, int set) {
            int sum = 0;
            if (kind == 0) {
                for (int point = 0; point < 10; point++) {
                    boolean is = false;
                    for (int element = 0; element < elements; element++) {
                        is |= in(set, element) && covers[element][point];
                    }
                    sum += is ? 1 : 0;
                }
            } else if (kind == 1) {
                for (int one = 0; one < elements; one++) {
                    for (int two = 0; two < elements; two++) {
                        sum += in(set, one) && !in(set, two) ? edges[one][two] : 0;
                    }
                }
            } else if (kind == 4) {
                for (int element = 0; element < elements; element++) {
                    sum += in(set, element) ? weights[element] : 0;
                }
            } else {
                sum = rank(kind - 2, set);
            }
            return sum;
        }

        long add(int[] values) {
            functions.add(values);
            return functions.size() - 1;
        }

        boolean lawful(int function) {
            int[] f = functions.get(function);
            for (int one = 0; one < sets(); one++) {
                for (int two = 0; two < sets(); two++) {
                    if (f[one] + f[two] < f[one | two] + f[one & two]) {
                        return false;
                    }
                }
            }
            return true;
        }

        boolean rising(int function) {
            int[] f = functions.get(function);
            for (int set = 0; set < sets(); set++) {
                for (int part = 0; part < sets(); part++) {
                    if ((part & ~set) == 0 && f[part] > f[set]) {
                        return false;
                    }
                }
            }
            return true;
        }

        int least(int function) {
            int least = Integer.MAX_VALUE;
            for (int set = 0; set < sets(); set++) {
                least = Math.min(least, functions.get(function)[set]);
            }
            return least;
        }

        int leastSet(int function, boolean isGreatest) {
            int found = -1;
            for (int set = 0; set < sets(); set++) {
                if (functions.get(function)[set] == least(function)) {
                    boolean isMore = found == -1 || Integer.bitCount(set) > Integer.bitCount(found);
                    boolean isLess = found == -1 || Integer.bitCount(set) < Integer.bitCount(found);
                    found = (isGreatest ? isMore : isLess) ? set : found;
                }
            }
            return found;
        }

        int greedy(int function, int many) {
            int[] f = functions.get(function);
            int taken = 0;
            while (Integer.bitCount(taken) < many) {
                int next = taken;
                for (int element = elements - 1; element >= 0; element--) {
                    int set = taken | 1 << element;
                    if (f[set] > f[taken] && f[set] >= f[next]) {
                        next = set;
                    }
                }
                if (next == taken) {
                    return taken;
                }
                taken = next;
            }
            return taken;
        }

        int best(int function, int many) {
            int greatest = Integer.MIN_VALUE;
            for (int set = 0; set < sets(); set++) {
                if (Integer.bitCount(set) <= many) {
                    greatest = Math.max(greatest, functions.get(function)[set]);
                }
            }
            return greatest;
        }

        int common() {
            int greatest = 0;
            for (int set = 0; set < sets(); set++) {
                if (fair(0, set) && fair(1, set)) {
                    greatest = Math.max(greatest, Integer.bitCount(set));
                }
            }
            return greatest;
        }

        /** By all orders, each put together whole before its gain is looked at. */
        long share(int function, int element, List<Integer> order) {
            if (order.size() == elements) {
                int ahead = 0;
                for (int place = 0; order.get(place) != element; place++) {
                    ahead |= 1 << order.get(place);
                }
                return functions.get(function)[ahead | 1 << element] - functions.get(function)[ahead];
            }
            long sum = 0;
            for (int next = 0; next < elements; next++) {
                if (!order.contains(next)) {
                    order.add(next);
                    sum += share(function, element, order);
                    order.remove(order.size() - 1);
                }
            }
            return sum;
        }

        long tell(int method, int a, int b, int c, boolean is) {
            long before;
            switch (method) {
                case 0:
                    if (out(a, 1, 6)) return ARGUMENT;
                    before = elements;
                    begin(a);
                    return before;
                case 1:
                    if (noElement(a) || out(b, 0, 9)) return OUTSIDE;
                    before = covers[a][b] ? 1 : 0;
                    covers[a][b] = is;
                    return before;
                case 2:
                    if (noElement(a) || noElement(b)) return OUTSIDE;
                    if (a == b || out(c, 0, 20)) return ARGUMENT;
                    before = edges[a][b];
                    edges[a][b] = c;
                    edges[b][a] = c;
                    return before;
                case 3:
                    if (out(a, 0, 1) || noElement(b) || out(c, 0, 5)) return OUTSIDE;
                    before = colours[a][b];
                    colours[a][b] = c;
                    return before;
                case 4:
                    if (out(a, 0, 1) || out(b, 0, 5)) return OUTSIDE;
                    if (out(c, 0, 6)) return ARGUMENT;
                    before = rooms[a][b];
                    rooms[a][b] = c;
                    return before;
                default:
                    if (noElement(a)) return OUTSIDE;
                    if (out(b, -20, 20)) return ARGUMENT;
                    before = weights[a];
                    weights[a] = b;
                    return before;
            }
        }

        long form(int method, int a, int b) {
            if (method != 6 && (noFunction(a) || method == 7 && noFunction(b))) return OUTSIDE;
            if (method == 6 && out(a, 0, 4)) return ARGUMENT;
            if (method == 8 && noSet(b) || method == 9 && out(b, 0, 100)) return ARGUMENT;
            if (functions.size() == 8) return STATE;
            int[] values = new int[sets()];
            for (int set = 0; set < sets(); set++) {
                int[] f = method == 6 ? null : functions.get(a);
                values[set] = method == 6 ? toldValue(a, set)
                    : method == 7 ? f[set] + functions.get(b)[set]
                    : method == 8 ? f[set | b] - f[b]
                    : f[set] < b ? f[set] : b;
            }
            return add(values);
        }

        long orders(int method, int a, int b) {
            if (method == 16) {
                if (noElement(a)) return OUTSIDE;
                if (order.size() < elements && order.contains(a)) return STATE;
                if (order.size() == elements) {
                    order.clear();
                }
                order.add(a);
                return order.size();
            }
            if (noFunction(a) || noElement(b)) return OUTSIDE;
            if (!order.contains(b)) return STATE;
            int upTo = 0;
            int ahead = 0;
            for (int element : order.subList(0, order.indexOf(b) + 1)) {
                ahead = upTo;
                upTo |= 1 << element;
            }
            return functions.get(a)[upTo] - functions.get(a)[ahead];
        }

        long ask(int method, int a, int b, boolean is) {
            if (method == 20 || method == 21) return common();
            if (noFunction(a) || (method == 22 || method == 23) && noElement(b)) return OUTSIDE;
            if (method == 10) return noSet(b) ? ARGUMENT : functions.get(a)[b];
            if (method == 11) return lawful(a) ? 1 : 0;
            if (method == 12) return rising(a) ? 1 : 0;
            if (method == 18) return out(b, 0, 6) ? ARGUMENT : greedy(a, b);
            if (method == 19) return out(b, 0, 6) ? ARGUMENT : best(a, b);
            if (method >= 22) return share(a, b, new ArrayList<>());
            if (!lawful(a)) return STATE;
            return method == 13 ? least(a) : leastSet(a, is);
        }

        long answer(int method, int a, int b, int c, boolean is) {
            if (method <= 5) return tell(method, a, b, c, is);
            if (method <= 9) return form(method, a, b);
            if (method == 16 || method == 17) return orders(method, a, b);
            return ask(method, a, b, is);
        }
    }

    private static long call(Submodulary x, int method, int a, int b, int c, boolean is) {
        switch (method) {
            case 0: return x.elements(a);
            case 1: return x.cover(a, b, is) ? 1 : 0;
            case 2: return x.edge(a, b, c);
            case 3: return x.colour(a, b, c);
            case 4: return x.room(a, b, c);
            case 5: return x.weigh(a, b);
            case 6: return x.make(a);
            case 7: return x.sum(a, b);
            case 8: return x.contract(a, b);
            case 9: return x.cap(a, b);
            case 10: return x.value(a, b);
            case 11: return x.isLawful(a) ? 1 : 0;
            case 12: return x.rises(a) ? 1 : 0;
            case 13: return x.least(a);
            case 14: return x.leastSet(a, is);
            case 15: return x.leastSetAnew(a, is);
            case 16: return x.order(a);
            case 17: return x.corner(a, b);
            case 18: return x.greedy(a, b);
            case 19: return x.best(a, b);
            case 20: return x.common();
            case 21: return x.commonAnew();
            case 22: return x.share(a, b);
            default: return x.shareAnew(a, b);
        }
    }

    private static long answer(Submodulary x, int method, int a, int b, int c, boolean is) {
        try {
            return call(x, method, a, b, c, is);
        } catch (RuntimeException thrown) {
            Class<?> kind = thrown.getClass();
            return kind == IndexOutOfBoundsException.class ? OUTSIDE
                : kind == IllegalArgumentException.class ? ARGUMENT
                : kind == IllegalStateException.class ? STATE : OTHER;
        }
    }

    /** What is told comes often, a new beginning seldom, all orders seldom for they take the model long. */
    private static int drawMethod(Model model, int call) {
        int method = call < 2 ? 0 : draw(3) == 0 ? 1 + draw(6) : draw(METHODS);
        boolean isAgain = method == 0 && call >= 2 && draw(model.functions.size() == 8 ? 2 : 8) != 0;
        boolean isDear = method >= 22 && model.elements > 4 && draw(6) != 0;
        return isAgain || isDear ? 10 + draw(12) : method;
    }

    private static int[] drawArguments(Model model, int method) {
        int element = model.elements - 1;
        int function = Math.max(0, model.functions.size() - 1);
        int all = model.sets() - 1;
        int colours = 1 + draw(4);
        switch (method) {
            case 0: return new int[] {near(1, 6), 0, 0};
            case 1: return new int[] {near(0, element), near(0, 9), 0};
            case 2: return new int[] {near(0, element), near(0, element), near(0, 20)};
            case 3: return new int[] {near(0, 1), near(0, element), draw(3) == 0 ? near(0, 5) : draw(colours)};
            case 4: return new int[] {near(0, 1), near(0, 5), draw(3) == 0 ? near(0, 6) : draw(3)};
            case 5: return new int[] {near(0, element), draw(2) == 0 ? near(-20, 20) : draw(7) - 3, 0};
            case 6: return new int[] {near(0, 4), 0, 0};
            case 7: return new int[] {near(0, function), near(0, function), 0};
            case 8: case 10: return new int[] {near(0, function), near(0, all), 0};
            case 9: return new int[] {near(0, function), draw(3) == 0 ? near(0, 100) : draw(20), 0};
            case 16: return new int[] {near(0, element), 0, 0};
            case 18: case 19: return new int[] {near(0, function), near(0, 6), 0};
            case 17: case 22: case 23: return new int[] {near(0, function), near(0, element), 0};
            default: return new int[] {near(0, function), 0, 0};
        }
    }

    private static String told(long answer) {
        return answer == OUTSIDE ? "throws.IndexOutOfBoundsException"
            : answer == ARGUMENT ? "throws.IllegalArgumentException"
            : answer == STATE ? "throws.IllegalStateException"
            : answer == OTHER ? "throws another exception" : Long.toString(answer);
    }

    /** Plays one run, up to its first wrong answer, and returns whether there was none. */
    private static boolean isRight(int run, int[] answered, int[] refused) {
        seed = run * 7919L + 17;
        Submodulary x = new Submodulary();
        Model model = new Model();
        for (int call = 0; call < CALLS; call++) {
            int method = drawMethod(model, call);
            int[] a = drawArguments(model, method);
            boolean is = draw(4) != 0;
            long want = model.answer(method, a[0], a[1], a[2], is);
            long got = answer(x, method, a[0], a[1], a[2], is);
            if (got != want) {
                System.out.println("run " + run + ", call " + call + ": " + NAMES[method] + " of " + a[0] + ", " + a[1] + ", "
                    + a[2] + ", " + is + " answered " + told(got) + ", due is " + told(want));
                return false;
            }
            (want >= OUTSIDE ? refused : answered)[method]++;
        }
        return true;
    }

    public static void main(String[] arguments) {
        int[] answered = new int[METHODS];
        int[] refused = new int[METHODS];
        int wrong = 0;
        for (int run = 0; run < RUNS; run++) {
            wrong += isRight(run, answered, refused) ? 0 : 1;
        }
        for (int method = 0; method < METHODS; method++) {
            boolean isEverRefused = method != 20 && method != 21;
            if (answered[method] < 500 || isEverRefused && refused[method] < 20) {
                wrong++;
                System.out.println(NAMES[method] + " was met too seldom: " + answered[method] + " answers, "
                    + refused[method] + " refusals");
            }
        }
        System.out.println(wrong == 0 ? RUNS + " runs are as the model's" : wrong + " things are not as the model's");
        if (wrong != 0) {
            System.exit(1);
        }
    }
}
