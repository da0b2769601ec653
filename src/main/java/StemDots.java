/*
 * A letter on dots: its upright edges are told by texts, make stems, and are laid on whole dots.
 * What each call must answer stands in ../shared/DOC.md; ../shared/LANGUAGE.md binds how it is written here.
 */
public final class StemDots {
    public static final int NONE = -6, UNKNOWN = -1, OUTSIDE = -2, STATE = -3, FULL = -4, NO = -5;
    public static final int GONE = -10000000;

    private static final int MOST_SIGNS = 30, FIRST_SIGN = 33, LAST_SIGN = 126, MOST_FIGURES = 3;
    private static final int MOST_EDGES = 16, MOST_X = 999, MOST_WIDTH = 300;
    // Each stem takes two edges that no other one has.
    private static final int MOST_STEMS = 8;
    private static final int MOST_SIZE = 60, UNIT = 1000;
    private static final int IMAGES = 2;
    private static final int RULES = 5, TOLERANCE = 0, STEM_WEIGHT = 1, GAP_WEIGHT = 2, MODE = 3, BOLD = 4;
    private static final int[] FIRST_RULES = {20, 1, 1, 0, 0};
    private static final int[] MOST_OF_RULE = {99, 9, 9, 3, 3};
    private static final int TOO_WIDE = 1, CROWDED = 2;

    private final Pad pad;
    private final Letter letter;
    private final Letter[] images;
    private final boolean[] kept;
    private final Stems stems;
    private final Fits fits;

    public StemDots() {
        pad = new Pad();
        letter = new Letter();
        images = new Letter[IMAGES];
        for (int n = 0; n < IMAGES; n++) {
            images[n] = new Letter();
        }
        kept = new boolean[IMAGES];
        stems = new Stems();
        fits = new Fits(letter, stems);
    }

    // ---- 1 edges

    public int say(int sign) {
        if (!isWithin(sign, FIRST_SIGN, LAST_SIGN)) {
            return OUTSIDE;
        }
        return pad.add(sign) ? pad.signs : FULL;
    }

    public int wipe() {
        int were = pad.signs;
        pad.clear();
        return were;
    }

    public int fault() {
        return pad.read();
    }

    public int edge() {
        if (pad.read() != NONE) {
            return NO;
        }
        if (!letter.add(pad)) {
            return FULL;
        }
        pad.clear();
        renew();
        return letter.edges;
    }

    public int erase(int edge) {
        if (!isWithin(edge, 0, letter.edges - 1)) {
            return UNKNOWN;
        }
        letter.remove(edge);
        renew();
        return letter.edges;
    }

    public int told(int edge, int what) {
        if (!isWithin(edge, 0, letter.edges - 1)) {
            return UNKNOWN;
        }
        switch (what) {
            case 0: return letter.up[edge];
            case 1: return letter.x[edge];
            case 2: return letter.low[edge];
            case 3: return letter.high[edge];
            case 4: return stems.withEdge(edge);
            default: return OUTSIDE;
        }
    }

    public int rule(int what, int n) {
        if (!isWithin(what, 0, RULES - 1) || !isWithin(n, 0, MOST_OF_RULE[what])) {
            return OUTSIDE;
        }
        int was = letter.rules[what];
        letter.rules[what] = n;
        renew();
        return was;
    }

    // ---- 2 stems, classes

    public int stem(int stem, int what) {
        if (!isWithin(stem, 0, stems.many - 1)) {
            return UNKNOWN;
        }
        switch (what) {
            case 0: return stems.left[stem];
            case 1: return stems.right[stem];
            case 2: return stems.upEdge[stem];
            case 3: return stems.downEdge[stem];
            case 4: return stems.group[stem];
            default: return OUTSIDE;
        }
    }

    public int kind(int kind, int what) {
        if (!isWithin(kind, 0, stems.groups - 1)) {
            return UNKNOWN;
        }
        switch (what) {
            case 0: return stems.members[kind];
            case 1: return stems.leastWidth[kind];
            case 2: return stems.standard(kind);
            default: return OUTSIDE;
        }
    }

    public int dots(int kind, int size) {
        if (!isWithin(kind, 0, stems.groups - 1)) {
            return UNKNOWN;
        }
        if (!isSize(size)) {
            return OUTSIDE;
        }
        return stems.dotsOfGroup(kind, size, letter.rules[BOLD]);
    }

    public int grows(int kind, int dots) {
        if (!isWithin(kind, 0, stems.groups - 1)) {
            return UNKNOWN;
        }
        if (!isWithin(dots, 1, MOST_SIZE)) {
            return OUTSIDE;
        }
        for (int size = 1; size <= MOST_SIZE; size++) {
            if (stems.dotsOfGroup(kind, size, letter.rules[BOLD]) >= dots) {
                return size;
            }
        }
        return NONE;
    }

    // ---- 3 fits

    public int fit(int size, int stem) {
        if (!isWithin(stem, 0, stems.many - 1)) {
            return UNKNOWN;
        }
        if (!isSize(size)) {
            return OUTSIDE;
        }
        return fits.isAt(size) ? fits.leftDot(size, stem) : STATE;
    }

    public long distortion(int size) {
        if (!isSize(size)) {
            return OUTSIDE;
        }
        return fits.isAt(size) ? fits.least[size] : STATE;
    }

    public int why(int size, int what) {
        if (!isSize(size) || !isWithin(what, 0, 1)) {
            return OUTSIDE;
        }
        if (fits.isAt(size)) {
            return what == 0 ? 0 : NONE;
        }
        int stem = fits.blamed[size];
        if (what == 1) {
            return stem;
        }
        return stems.dotsOfStem(stem, size, letter.rules[BOLD]) > size ? TOO_WIDE : CROWDED;
    }

    public int best(int most) {
        if (!isSize(most)) {
            return OUTSIDE;
        }
        int best = NONE;
        long least = 0;
        for (int size = 1; size <= most; size++) {
            if (!fits.isAt(size)) {
                continue;
            }
            long here = fits.least[size];
            // Both sides stand multiplied by both sizes: a quotient would be cut.
            if (best == NONE || here * best <= least * size) {
                best = size;
                least = here;
            }
        }
        return best;
    }

    // ---- 4 what lies between

    public int place(int size, int x) {
        if (!isSize(size) || !isWithin(x, 0, MOST_X)) {
            return GONE + OUTSIDE;
        }
        return fits.isAt(size) ? fits.drawn(size, x) : GONE + STATE;
    }

    public int image(int n) {
        if (!isWithin(n, 0, IMAGES - 1)) {
            return OUTSIDE;
        }
        images[n].take(letter);
        kept[n] = true;
        return 1;
    }

    public int restore(int n) {
        if (!isWithin(n, 0, IMAGES - 1)) {
            return OUTSIDE;
        }
        if (!kept[n]) {
            return STATE;
        }
        letter.take(images[n]);
        renew();
        return 1;
    }

    public int count(int what) {
        switch (what) {
            case 0: return pad.signs;
            case 1: return letter.edges;
            case 2: return stems.many;
            case 3: return stems.groups;
            default: return isWithin(what, 4, 3 + RULES) ? letter.rules[what - 4] : OUTSIDE;
        }
    }

    // Stems, classes and fits are drawn from edges and rules alone: every change of those ends here.
    private void renew() {
        stems.find(letter);
        fits.forget();
    }

    private static boolean isWithin(int n, int least, int most) {
        return n >= least && n <= most;
    }

    private static boolean isSize(int size) {
        return isWithin(size, 1, MOST_SIZE);
    }

    /** The signs of an edge that is being told, and what they tell. */
    private static final class Pad {
        private static final int X = 0, LOW = 1, HIGH = 2, NUMBERS = 3;
        private static final char[] BEHIND_NUMBER = {',', '-'};

        final int[] row;
        int signs;
        final int[] numbers;

        Pad() {
            row = new int[MOST_SIGNS];
            numbers = new int[NUMBERS];
        }

        boolean add(int sign) {
            if (signs >= MOST_SIGNS) {
                return false;
            }
            row[signs] = sign;
            signs++;
            return true;
        }

        void clear() {
            signs = 0;
        }

        /** The fault, or NONE; only if there is none the numbers are those of the whole pad. */
        int read() {
            if (!isSign(0, 'u') && !isSign(0, 'd')) {
                return 0;
            }
            int at = 1;
            for (int n = 0; n < NUMBERS; n++) {
                int figures = readNumber(n, at);
                at += figures;
                if (figures == 0) {
                    return at;
                }
                if (n < BEHIND_NUMBER.length) {
                    if (!isSign(at, BEHIND_NUMBER[n])) {
                        return at;
                    }
                    at++;
                }
            }
            if (at < signs) {
                return at;
            }
            return numbers[HIGH] > numbers[LOW] ? NONE : signs;
        }

        private boolean isSign(int at, char sign) {
            return at >= 0 && at < signs && row[at] == sign;
        }

        private int readNumber(int n, int from) {
            int figures = 0;
            int value = 0;
            while (figures < MOST_FIGURES && isFigure(from + figures)) {
                value = 10 * value + row[from + figures] - '0';
                figures++;
            }
            numbers[n] = value;
            return figures;
        }

        private boolean isFigure(int at) {
            return at >= 0 && at < signs && isWithin(row[at], '0', '9');
        }
    }

    /** What an image keeps: edges and rules. */
    private static final class Letter {
        final int[] up, x, low, high;
        int edges;
        final int[] rules;

        Letter() {
            up = new int[MOST_EDGES];
            x = new int[MOST_EDGES];
            low = new int[MOST_EDGES];
            high = new int[MOST_EDGES];
            rules = new int[RULES];
            System.arraycopy(FIRST_RULES, 0, rules, 0, RULES);
        }

        boolean add(Pad pad) {
            if (edges >= MOST_EDGES) {
                return false;
            }
            up[edges] = pad.isSign(0, 'u') ? 1 : 0;
            x[edges] = pad.numbers[Pad.X];
            low[edges] = pad.numbers[Pad.LOW];
            high[edges] = pad.numbers[Pad.HIGH];
            edges++;
            return true;
        }

        void remove(int edge) {
            for (int e = edge; e + 1 < edges; e++) {
                up[e] = up[e + 1];
                x[e] = x[e + 1];
                low[e] = low[e + 1];
                high[e] = high[e + 1];
            }
            edges--;
        }

        void take(Letter other) {
            System.arraycopy(other.up, 0, up, 0, MOST_EDGES);
            System.arraycopy(other.x, 0, x, 0, MOST_EDGES);
            System.arraycopy(other.low, 0, low, 0, MOST_EDGES);
            System.arraycopy(other.high, 0, high, 0, MOST_EDGES);
            edges = other.edges;
            System.arraycopy(other.rules, 0, rules, 0, RULES);
        }

        boolean canBeStem(int one, int other) {
            return up[one] == 1 && up[other] == 0
                && isWithin(x[other] - x[one], 1, MOST_WIDTH)
                && Math.min(high[one], high[other]) > Math.max(low[one], low[other]);
        }
    }

    /** The stems of a letter by their lefts, and their classes (groups here) by their widths. */
    private static final class Stems {
        int many;
        final int[] left, right, upEdge, downEdge, group;
        int groups;
        final int[] members, leastWidth, widths;
        private final int[] byWidth;

        Stems() {
            left = new int[MOST_STEMS];
            right = new int[MOST_STEMS];
            upEdge = new int[MOST_STEMS];
            downEdge = new int[MOST_STEMS];
            group = new int[MOST_STEMS];
            members = new int[MOST_STEMS];
            leastWidth = new int[MOST_STEMS];
            widths = new int[MOST_STEMS];
            byWidth = new int[MOST_STEMS];
        }

        void find(Letter letter) {
            many = 0;
            boolean more = true;
            for (int n = 0; more && n < MOST_STEMS; n++) {
                more = addNarrowest(letter);
            }
            sortByWidth();
            makeGroups(letter.rules[TOLERANCE]);
        }

        int withEdge(int edge) {
            for (int s = 0; s < many; s++) {
                if (upEdge[s] == edge || downEdge[s] == edge) {
                    return s;
                }
            }
            return NONE;
        }

        int standard(int k) {
            return members[k] > 0 ? widths[k] / members[k] : 0;
        }

        int dotsOfGroup(int k, int size, int bold) {
            int nearest = (standard(k) * size + UNIT / 2) / UNIT;
            return Math.max(1, nearest) + bold;
        }

        int dotsOfStem(int s, int size, int bold) {
            return dotsOfGroup(group[s], size, bold);
        }

        private int width(int s) {
            return right[s] - left[s];
        }

        private boolean addNarrowest(Letter letter) {
            int one = NONE;
            int other = NONE;
            for (int u = 0; u < letter.edges; u++) {
                for (int d = 0; d < letter.edges; d++) {
                    if (!letter.canBeStem(u, d) || !isFree(letter.x[u], letter.x[d])) {
                        continue;
                    }
                    // Of pairs alike in width and X the one met first has the lesser numbers.
                    if (one == NONE || isSooner(letter.x[u], letter.x[d], letter.x[one], letter.x[other])) {
                        one = u;
                        other = d;
                    }
                }
            }
            if (one == NONE) {
                return false;
            }
            insert(one, other, letter.x[one], letter.x[other]);
            return true;
        }

        // A pair that shares an edge with a stem touches it at that edge: this looks after both conditions.
        private boolean isFree(int from, int to) {
            for (int s = 0; s < many; s++) {
                if (to >= left[s] && right[s] >= from) {
                    return false;
                }
            }
            return true;
        }

        private static boolean isSooner(int from, int to, int thanFrom, int thanTo) {
            int width = to - from;
            int thanWidth = thanTo - thanFrom;
            return width < thanWidth || width == thanWidth && from < thanFrom;
        }

        private void insert(int one, int other, int from, int to) {
            if (many >= MOST_STEMS) {
                return;
            }
            int s = many;
            while (s > 0 && left[s - 1] > from) {
                left[s] = left[s - 1];
                right[s] = right[s - 1];
                upEdge[s] = upEdge[s - 1];
                downEdge[s] = downEdge[s - 1];
                s--;
            }
            left[s] = from;
            right[s] = to;
            upEdge[s] = one;
            downEdge[s] = other;
            many++;
        }

        private void sortByWidth() {
            for (int s = 0; s < many; s++) {
                int at = s;
                while (at > 0 && width(byWidth[at - 1]) > width(s)) {
                    byWidth[at] = byWidth[at - 1];
                    at--;
                }
                byWidth[at] = s;
            }
        }

        private void makeGroups(int tolerance) {
            groups = 0;
            for (int n = 0; n < many; n++) {
                int s = byWidth[n];
                if (groups == 0 || width(s) - leastWidth[groups - 1] > tolerance) {
                    members[groups] = 0;
                    leastWidth[groups] = width(s);
                    widths[groups] = 0;
                    groups++;
                }
                group[s] = groups - 1;
                members[groups - 1]++;
                widths[groups - 1] += width(s);
            }
        }
    }

    /**
     * The fit of each size, worked out when it is first asked for.
     * A way to lay the stems is told by shifts: how many dots each one lies to the right of where it lies
     * if all are as far to the left as can be. Then "in their order, a dot between them, within the letter"
     * is: shifts do not fall from stem to stem, and none is more than the room that is left.
     */
    private static final class Fits {
        private static final int SHIFTS = MOST_SIZE;

        final long[] least;
        final int[] blamed;
        private final boolean[] known;
        private final int[] leftDots;
        private final Letter letter;
        private final Stems stems;
        // Of the size that is being worked out.
        private final int[] dotsOf, leftmost;
        private final long[] rest, gapCosts;
        private int workSize, room;

        Fits(Letter itsLetter, Stems itsStems) {
            letter = itsLetter;
            stems = itsStems;
            least = new long[MOST_SIZE + 1];
            blamed = new int[MOST_SIZE + 1];
            known = new boolean[MOST_SIZE + 1];
            leftDots = new int[(MOST_SIZE + 1) * MOST_STEMS];
            dotsOf = new int[MOST_STEMS];
            leftmost = new int[MOST_STEMS];
            rest = new long[MOST_STEMS * SHIFTS];
            gapCosts = new long[SHIFTS];
        }

        void forget() {
            for (int size = 0; size <= MOST_SIZE; size++) {
                known[size] = false;
            }
        }

        boolean isAt(int size) {
            if (!known[size]) {
                workOut(size);
                known[size] = true;
            }
            return blamed[size] == NONE;
        }

        int leftDot(int size, int stem) {
            return leftDots[size * MOST_STEMS + stem];
        }

        /** Where an X is drawn by the fit, in thousandths of a dot. */
        int drawn(int size, int x) {
            if (stems.many == 0) {
                return x * size;
            }
            int knot = stems.left[0];
            int at = UNIT * leftDot(size, 0);
            if (x <= knot) {
                return at - (knot - x) * size;
            }
            for (int k = 1; k < 2 * stems.many; k++) {
                int stem = k / 2;
                boolean ends = k % 2 == 1;
                int next = ends ? stems.right[stem] : stems.left[stem];
                int dot = leftDot(size, stem) + (ends ? stems.dotsOfStem(stem, size, letter.rules[BOLD]) : 0);
                if (x <= next && next > knot) {
                    return at + (x - knot) * (UNIT * dot - at) / (next - knot);
                }
                knot = next;
                at = UNIT * dot;
            }
            return at + (x - knot) * size;
        }

        private void workOut(int size) {
            workSize = size;
            blamed[size] = layLeftmost();
            if (blamed[size] != NONE) {
                return;
            }
            least[size] = 0;
            if (stems.many > 0) {
                weighRests();
                least[size] = leastRest();
                layLeast();
            }
        }

        /** Lays all as far to the left as can be: NONE, or the first stem for which no place is left. */
        private int layLeftmost() {
            int from = 0;
            room = 0;
            for (int s = 0; s < stems.many; s++) {
                dotsOf[s] = stems.dotsOfStem(s, workSize, letter.rules[BOLD]);
                leftmost[s] = from;
                room = workSize - from - dotsOf[s];
                if (room < 0) {
                    return s;
                }
                from += dotsOf[s] + 1;
            }
            return NONE;
        }

        // From the last stem back, so that the walk from the first one on can take the least dot at each step.
        private void weighRests() {
            for (int s = stems.many - 1; s >= 0; s--) {
                weighGapsBehind(s);
                for (int shift = 0; shift <= room && shift < SHIFTS; shift++) {
                    rest[s * SHIFTS + shift] = restAt(s, shift);
                }
            }
        }

        // A gap's cost hangs on how much wider it is alone: each is weighed once, not for each pair of shifts.
        private void weighGapsBehind(int s) {
            for (int wider = 0; s + 1 < stems.many && wider <= room && wider < SHIFTS; wider++) {
                gapCosts[wider] = gapCost(s, wider);
            }
        }

        private long restAt(int s, int shift) {
            long own = stemCost(s, shift);
            if (s + 1 >= stems.many) {
                return own;
            }
            long behind = joined(gapCosts[0], rest[(s + 1) * SHIFTS + shift]);
            for (int next = shift + 1; next <= room && next < SHIFTS; next++) {
                behind = Math.min(behind, joined(gapCosts[next - shift], rest[(s + 1) * SHIFTS + next]));
            }
            return joined(own, behind);
        }

        private long leastRest() {
            long found = rest[0];
            for (int shift = 1; shift <= room && shift < SHIFTS; shift++) {
                found = Math.min(found, rest[shift]);
            }
            return found;
        }

        /** Of all ways of the least distortion: each stem on the least dot that still comes out at it. */
        private void layLeast() {
            long allowed = least[workSize];
            int shift = 0;
            for (int s = 0; s < stems.many; s++) {
                int before = shift;
                while (shift < room && shift + 1 < SHIFTS && comesTo(s, before, shift) > allowed) {
                    shift++;
                }
                leftDots[workSize * MOST_STEMS + s] = leftmost[s] + shift;
                allowed = without(allowed, stemCost(s, shift));
                if (s > 0) {
                    allowed = without(allowed, gapCost(s - 1, shift - before));
                }
            }
        }

        private long comesTo(int s, int before, int shift) {
            long behind = rest[s * SHIFTS + shift];
            return s == 0 ? behind : joined(gapCost(s - 1, shift - before), behind);
        }

        private boolean worstCounts() {
            return letter.rules[MODE] >= 2;
        }

        private long joined(long a, long b) {
            return worstCounts() ? Math.max(a, b) : a + b;
        }

        // By the worst one, every other one may come up to it: nothing is used up.
        private long without(long allowed, long cost) {
            return worstCounts() ? allowed : allowed - cost;
        }

        private long stemCost(int s, int shift) {
            int twiceMiddle = 2 * (leftmost[s] + shift) + dotsOf[s];
            int drift = Math.abs(twiceMiddle * UNIT - (stems.left[s] + stems.right[s]) * workSize);
            return weighed(drift, letter.rules[STEM_WEIGHT]);
        }

        private long gapCost(int s, int wider) {
            int wide = stems.left[s + 1] - stems.right[s];
            int drift = 2 * Math.abs((1 + wider) * UNIT - wide * workSize);
            return weighed(drift, letter.rules[GAP_WEIGHT]);
        }

        private long weighed(long drift, int weight) {
            boolean squared = letter.rules[MODE] % 2 == 1;
            return (squared ? drift * drift / UNIT : drift) * weight;
        }
    }
}
