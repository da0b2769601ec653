import java.util.ArrayList;
import java.util.Arrays;
import java.util.Comparator;
import java.util.List;

/**
 * The document once more, as plainly as can be and by other ways than the program: every pair of edges is
 * listed and sorted, every way to lay the stems is tried, or, where it is told to, the ways are built from
 * the first stem on. Slow; only to be compared with.
 */
final class Model {
    static final int NONE = -6, UNKNOWN = -1, OUTSIDE = -2, STATE = -3, FULL = -4, NO = -5, GONE = -10000000;
    /** The most ways that are tried; where there are more, the model does not know, but by prefixes. */
    static final long MOST_WAYS = 60000;

    record Edge(boolean up, int x, int low, int high) { }
    record Stem(int left, int right, int up, int down) { int width() { return right - left; } }
    record Kept(List<Edge> edges, int[] rules) { }

    String pad = "";
    List<Edge> edges = new ArrayList<>();
    int[] rules = {20, 1, 1, 0, 0};
    final Kept[] images = new Kept[2];
    List<Stem> stems = new ArrayList<>();
    List<List<Integer>> classes = new ArrayList<>();

    int say(int sign) {
        if (sign < 33 || sign > 126) return OUTSIDE;
        if (pad.length() == 30) return FULL;
        pad += (char) sign;
        return pad.length();
    }

    int wipe() {
        int were = pad.length();
        pad = "";
        return were;
    }

    int fault() {
        for (int n = 0; n < pad.length(); n++) {
            if (!canBegin(pad.substring(0, n + 1))) return n;
        }
        if (!pad.matches("[ud]\\d{1,3},\\d{1,3}-\\d{1,3}")) return pad.length();
        return high() > low() ? NONE : pad.length();
    }

    private static boolean canBegin(String s) {
        return s.matches("[ud]\\d{0,3}") || s.matches("[ud]\\d{1,3},\\d{0,3}")
            || s.matches("[ud]\\d{1,3},\\d{1,3}-\\d{0,3}");
    }

    private int low() {
        return Integer.parseInt(pad.substring(pad.indexOf(',') + 1, pad.indexOf('-')));
    }

    private int high() {
        return Integer.parseInt(pad.substring(pad.indexOf('-') + 1));
    }

    int edge() {
        if (fault() != NONE) return NO;
        if (edges.size() == 16) return FULL;
        edges.add(new Edge(pad.charAt(0) == 'u', Integer.parseInt(pad.substring(1, pad.indexOf(','))), low(), high()));
        pad = "";
        renew();
        return edges.size();
    }

    int erase(int edge) {
        if (edge < 0 || edge >= edges.size()) return UNKNOWN;
        edges.remove(edge);
        renew();
        return edges.size();
    }

    int told(int edge, int what) {
        if (edge < 0 || edge >= edges.size()) return UNKNOWN;
        Edge e = edges.get(edge);
        if (what == 0) return e.up ? 1 : 0;
        if (what == 1) return e.x;
        if (what == 2) return e.low;
        if (what == 3) return e.high;
        if (what != 4) return OUTSIDE;
        for (int s = 0; s < stems.size(); s++) {
            if (stems.get(s).up == edge || stems.get(s).down == edge) return s;
        }
        return NONE;
    }

    int rule(int what, int n) {
        int[] most = {99, 9, 9, 3, 3};
        if (what < 0 || what > 4 || n < 0 || n > most[what]) return OUTSIDE;
        int was = rules[what];
        rules[what] = n;
        renew();
        return was;
    }

    private void renew() {
        laidSize = 0;
        List<Stem> can = new ArrayList<>();
        for (int u = 0; u < edges.size(); u++) {
            for (int d = 0; d < edges.size(); d++) {
                Edge a = edges.get(u), b = edges.get(d);
                boolean height = Math.min(a.high, b.high) > Math.max(a.low, b.low);
                if (a.up && !b.up && a.x < b.x && b.x - a.x <= 300 && height) can.add(new Stem(a.x, b.x, u, d));
            }
        }
        can.sort(Comparator.comparingInt(Stem::width).thenComparingInt(Stem::left)
            .thenComparingInt(Stem::up).thenComparingInt(Stem::down));
        stems = new ArrayList<>();
        while (!can.isEmpty()) {
            Stem taken = can.remove(0);
            stems.add(taken);
            can.removeIf(s -> s.up == taken.up || s.down == taken.down
                || !(s.right < taken.left || taken.right < s.left));
        }
        stems.sort(Comparator.comparingInt(Stem::left));
        List<Integer> byWidth = new ArrayList<>();
        for (int s = 0; s < stems.size(); s++) byWidth.add(s);
        byWidth.sort(Comparator.comparingInt((Integer s) -> stems.get(s).width()).thenComparingInt(s -> s));
        classes = new ArrayList<>();
        for (int s : byWidth) {
            List<Integer> last = classes.isEmpty() ? null : classes.get(classes.size() - 1);
            if (last == null || stems.get(s).width() > stems.get(last.get(0)).width() + rules[0]) {
                last = new ArrayList<>();
                classes.add(last);
            }
            last.add(s);
        }
    }

    private int classOf(int stem) {
        for (int k = 0; k < classes.size(); k++) {
            if (classes.get(k).contains(stem)) return k;
        }
        throw new IllegalStateException();
    }

    int stem(int stem, int what) {
        if (stem < 0 || stem >= stems.size()) return UNKNOWN;
        Stem s = stems.get(stem);
        int[] answers = {s.left, s.right, s.up, s.down, classOf(stem)};
        return what < 0 || what > 4 ? OUTSIDE : answers[what];
    }

    int kind(int kind, int what) {
        if (kind < 0 || kind >= classes.size()) return UNKNOWN;
        List<Integer> of = classes.get(kind);
        int[] answers = {of.size(), stems.get(of.get(0)).width(), standard(kind)};
        return what < 0 || what > 2 ? OUTSIDE : answers[what];
    }

    private int standard(int kind) {
        return classes.get(kind).stream().mapToInt(s -> stems.get(s).width()).sum() / classes.get(kind).size();
    }

    private int dotsAt(int kind, int size) {
        int thousandths = standard(kind) * size;
        int whole = thousandths / 1000;
        if (thousandths % 1000 >= 500) whole++;
        return (whole < 1 ? 1 : whole) + rules[4];
    }

    int dots(int kind, int size) {
        if (kind < 0 || kind >= classes.size()) return UNKNOWN;
        return size < 1 || size > 60 ? OUTSIDE : dotsAt(kind, size);
    }

    int grows(int kind, int dots) {
        if (kind < 0 || kind >= classes.size()) return UNKNOWN;
        if (dots < 1 || dots > 60) return OUTSIDE;
        int size = 60;
        if (dotsAt(kind, 60) < dots) return NONE;
        while (size > 1 && dotsAt(kind, size - 1) >= dots) size--;
        return size;
    }

    /** Whether fits are found by prefixes, not by trying all ways. */
    boolean byPrefixes;
    // The fit of the size that was asked for last: its dots (null: none), and its distortion.
    private int laidSize;
    private int[] fitDots;
    private long fitDistortion;
    private int[] dotsOf;

    /** How many ways there are to lay the stems. */
    long ways(int size) {
        int all = 0;
        for (int s = 0; s < stems.size(); s++) all += dotsAt(classOf(s), size) + (s > 0 ? 1 : 0);
        int room = size - all;
        if (room < 0) return 0;
        long ways = 1;
        for (int s = 1; s <= stems.size(); s++) ways = ways * (room + s) / s;
        return ways;
    }

    boolean knows(int size) {
        return size < 1 || size > 60 || ways(size) <= MOST_WAYS;
    }

    private void layAll(int size) {
        if (size == laidSize) return;
        laidSize = size;
        fitDots = null;
        fitDistortion = 0;
        dotsOf = new int[stems.size()];
        for (int s = 0; s < dotsOf.length; s++) dotsOf[s] = dotsAt(classOf(s), size);
        if (byPrefixes && !stems.isEmpty()) {
            layByPrefixes(size);
        } else {
            layFrom(0, new int[dotsOf.length], size);
        }
    }

    // Ways come in the order of their dots, so only a lesser distortion takes the place of an earlier one.
    private void layFrom(int stem, int[] dots, int size) {
        if (stem == dots.length) {
            long distortion = distortionOf(dots, size);
            if (fitDots == null || distortion < fitDistortion) {
                fitDots = dots.clone();
                fitDistortion = distortion;
            }
            return;
        }
        int from = stem == 0 ? 0 : dots[stem - 1] + dotsOf[stem - 1] + 1;
        for (int dot = from; dot + dotsOf[stem] <= size; dot++) {
            dots[stem] = dot;
            layFrom(stem + 1, dots, size);
        }
    }

    private long distortionOf(int[] dots, int size) {
        long sum = 0, greatest = 0;
        for (int s = 0; s < dots.length; s++) {
            long cost = stemCost(s, dots[s], size);
            sum += cost;
            greatest = Math.max(greatest, cost);
            if (s > 0) {
                cost = gapCost(s, dots[s - 1], dots[s], size);
                sum += cost;
                greatest = Math.max(greatest, cost);
            }
        }
        return rules[3] < 2 ? sum : greatest;
    }

    private long stemCost(int s, int dot, int size) {
        Stem stem = stems.get(s);
        return counted(Math.abs((2L * dot + dotsOf[s]) * 1000 - (long) (stem.left + stem.right) * size)) * rules[1];
    }

    /** Of the gap before stem s. */
    private long gapCost(int s, int before, int dot, int size) {
        long between = dot - before - dotsOf[s - 1];
        return counted(2 * Math.abs(between * 1000 - (long) (stems.get(s).left - stems.get(s - 1).right) * size)) * rules[2];
    }

    private record Way(long cost, int[] dots) { }

    /**
     * All added: of the ways of the first stems up to one that lies on a dot only the least can be part of the fit,
     * of as little the first. By the worst one that is so too, once it is known how great the worst is: then each
     * way without a greater one is as good.
     */
    private void layByPrefixes(int size) {
        Way found = leastWay(size, Long.MAX_VALUE);
        if (found == null) return;
        fitDistortion = found.cost;
        fitDots = rules[3] < 2 ? found.dots : leastWay(size, found.cost).dots;
    }

    private Way leastWay(int size, long worst) {
        Way[] ways = {new Way(0, new int[0])};
        for (int s = 0; s < dotsOf.length; s++) {
            Way[] longer = new Way[size];
            for (int dot = 0; dot + dotsOf[s] <= size; dot++) {
                for (Way way : ways) longer[dot] = better(longer[dot], onBy(way, dot, size, worst));
            }
            ways = longer;
        }
        Way least = null;
        for (Way way : ways) least = better(least, way);
        return least;
    }

    /** A way with one stem more, on this dot; null: it can not lie there, or is worse than the worst may be. */
    private Way onBy(Way way, int dot, int size, long worst) {
        if (way == null) return null;
        int s = way.dots.length;
        long own = stemCost(s, dot, size), gap = 0;
        if (s > 0) {
            if (dot < way.dots[s - 1] + dotsOf[s - 1] + 1) return null;
            gap = gapCost(s, way.dots[s - 1], dot, size);
        }
        if (rules[3] >= 2 && Math.max(own, gap) > worst) return null;
        int[] dots = Arrays.copyOf(way.dots, s + 1);
        dots[s] = dot;
        if (rules[3] < 2) return new Way(way.cost + own + gap, dots);
        return new Way(worst < Long.MAX_VALUE ? worst : Math.max(way.cost, Math.max(own, gap)), dots);
    }

    private static Way better(Way one, Way other) {
        if (one == null || other == null) return one == null ? other : one;
        if (one.cost != other.cost) return one.cost < other.cost ? one : other;
        return Arrays.compare(one.dots, other.dots) <= 0 ? one : other;
    }

    private long counted(long drift) {
        return rules[3] == 0 || rules[3] == 2 ? drift : drift * drift / 1000;
    }

    int fit(int size, int stem) {
        if (stem < 0 || stem >= stems.size()) return UNKNOWN;
        if (size < 1 || size > 60) return OUTSIDE;
        layAll(size);
        return fitDots == null ? STATE : fitDots[stem];
    }

    long distortion(int size) {
        if (size < 1 || size > 60) return OUTSIDE;
        layAll(size);
        return fitDots == null ? STATE : fitDistortion;
    }

    int why(int size, int what) {
        if (size < 1 || size > 60 || what < 0 || what > 1) return OUTSIDE;
        int free = 0;
        for (int s = 0; s < stems.size(); s++) {
            int wide = dotsAt(classOf(s), size);
            if (free + wide > size) return what == 1 ? s : wide > size ? 1 : 2;
            free += wide + 1;
        }
        return what == 1 ? NONE : 0;
    }

    int best(int most) {
        if (most < 1 || most > 60) return OUTSIDE;
        int best = NONE;
        long least = 0;
        for (int size = most; size >= 1; size--) {
            long here = distortion(size);
            if (here != STATE && (best == NONE || here * best < least * size)) {
                best = size;
                least = here;
            }
        }
        return best;
    }

    boolean knowsBest(int most) {
        long ways = 0;
        for (int size = 1; size <= Math.min(most, 60); size++) ways += ways(size);
        return ways <= MOST_WAYS;
    }

    int place(int size, int x) {
        if (size < 1 || size > 60 || x < 0 || x > 999) return GONE + OUTSIDE;
        layAll(size);
        if (fitDots == null) return GONE + STATE;
        if (stems.isEmpty()) return x * size;
        List<int[]> knots = new ArrayList<>();
        for (int s = 0; s < stems.size(); s++) {
            knots.add(new int[] {stems.get(s).left, 1000 * fitDots[s]});
            knots.add(new int[] {stems.get(s).right, 1000 * (fitDots[s] + dotsOf[s])});
        }
        int[] first = knots.get(0), last = knots.get(knots.size() - 1);
        if (x < first[0]) return first[1] - (first[0] - x) * size;
        if (x > last[0]) return last[1] + (x - last[0]) * size;
        for (int k = 0; k < knots.size(); k++) {
            int[] a = knots.get(k);
            if (x == a[0]) return a[1];
            int[] b = knots.get(k + 1);
            if (x < b[0]) return a[1] + (x - a[0]) * (b[1] - a[1]) / (b[0] - a[0]);
        }
        throw new IllegalStateException();
    }

    int image(int n) {
        if (n < 0 || n > 1) return OUTSIDE;
        images[n] = new Kept(new ArrayList<>(edges), rules.clone());
        return 1;
    }

    int restore(int n) {
        if (n < 0 || n > 1) return OUTSIDE;
        if (images[n] == null) return STATE;
        edges = new ArrayList<>(images[n].edges);
        rules = images[n].rules.clone();
        renew();
        return 1;
    }

    int count(int what) {
        if (what < 0 || what > 8) return OUTSIDE;
        if (what > 3) return rules[what - 4];
        return new int[] {pad.length(), edges.size(), stems.size(), classes.size()}[what];
    }
}
