import java.util.ArrayList;
import java.util.List;

/**
 * Refused calls: what they answer, which refusal comes first where two fit, and that they change nothing.
 * Two objects are used alike, but that a refused call is made of one of them, twice; all later calls answer alike.
 */
public final class RefusalTest extends Cases {
    private static final int MOST_CALLS = 512;
    private static final int SAY = 0, WIPE = 1, FAULT = 2, EDGE = 3, ERASE = 4, TOLD = 5, RULE = 6, STEM = 7, KIND = 8,
        DOTS = 9, GROWS = 10, FIT = 11, DISTORTION = 12, WHY = 13, BEST = 14, PLACE = 15, IMAGE = 16, RESTORE = 17,
        COUNT = 18;
    private static final String[] NAMES = {"say", "wipe", "fault", "edge", "erase", "told", "rule", "stem", "kind", "dots",
        "grows", "fit", "distortion", "why", "best", "place", "image", "restore", "count"};
    private static final int[] NOT_0_TO_4 = {Integer.MIN_VALUE, -6, -1, 5, 6, Integer.MAX_VALUE};
    private static final int[] NOT_0_TO_2 = {Integer.MIN_VALUE, -6, -1, 3, 4, Integer.MAX_VALUE};
    private static final int[] NOT_0_OR_1 = {Integer.MIN_VALUE, -6, -1, 2, 3, Integer.MAX_VALUE};
    private static final int[] NOT_1_TO_60 = {Integer.MIN_VALUE, -1, 0, 61, 62, Integer.MAX_VALUE};
    private static final int[] NOT_0_TO_999 = {Integer.MIN_VALUE, -1, 1000, 1001, Integer.MAX_VALUE};
    private static final int[] ANY = {Integer.MIN_VALUE, -1, 0, 1, 60, 61, Integer.MAX_VALUE};

    private record Call(int name, int a, int b) {
        @Override public String toString() {
            return NAMES[name] + "(" + a + ", " + b + ")";
        }
    }

    // What the letter that is asked now has come by.
    private final List<Call> before = new ArrayList<>();
    private final List<Call> later = new ArrayList<>();
    private int refusals = 0;

    public static void main(String[] args) {
        RefusalTest t = new RefusalTest();
        t.ofANewObject();
        t.ofOneEdge();
        t.ofTwoStems();
        t.ofTheFullLetter();
        t.ofTheFullPad();
        t.ofImages();
        t.check.holds("refused calls were many", t.refusals > 1000);
        t.check.end("RefusalTest");
    }

    private static long answer(StemDots x, Call c) {
        switch (c.name) {
            case SAY: return x.say(c.a);
            case WIPE: return x.wipe();
            case FAULT: return x.fault();
            case EDGE: return x.edge();
            case ERASE: return x.erase(c.a);
            case TOLD: return x.told(c.a, c.b);
            case RULE: return x.rule(c.a, c.b);
            case STEM: return x.stem(c.a, c.b);
            case KIND: return x.kind(c.a, c.b);
            case DOTS: return x.dots(c.a, c.b);
            case GROWS: return x.grows(c.a, c.b);
            case FIT: return x.fit(c.a, c.b);
            case DISTORTION: return x.distortion(c.a);
            case WHY: return x.why(c.a, c.b);
            case BEST: return x.best(c.a);
            case PLACE: return x.place(c.a, c.b);
            case IMAGE: return x.image(c.a);
            case RESTORE: return x.restore(c.a);
            case COUNT: return x.count(c.a);
            default: throw new IllegalArgumentException(c.toString());
        }
    }

    private void begin(String title) {
        about = title;
        before.clear();
    }

    private void first(int name, int a, int b) {
        before.add(new Call(name, a, b));
    }

    private void firstSay(String text) {
        for (int n = 0; n < text.length(); n++) {
            first(SAY, text.charAt(n), 0);
        }
    }

    private void firstEdges(String... texts) {
        for (String text : texts) {
            firstSay(text);
            first(EDGE, 0, 0);
        }
    }

    private void refused(long due, int name, int a, int b) {
        refusals++;
        Call call = new Call(name, a, b);
        StemDots asked = new StemDots();
        StemDots twin = new StemDots();
        for (Call c : before) {
            due("before: " + c, answer(asked, c), answer(twin, c));
        }
        due(call + "", answer(asked, call), due);
        due(call + " again", answer(asked, call), due);
        for (Call c : later) {
            due("after " + call + ": " + c, answer(asked, c), answer(twin, c));
        }
        check.holds("calls are few enough", before.size() + 2 + later.size() <= MOST_CALLS);
    }

    /** The letter as it is, then what it comes to by more calls: each part on objects of its own. */
    private void refusedEverywhere(long due, int name, int a, int b) {
        askLetter();
        refused(due, name, a, b);
        askFits();
        refused(due, name, a, b);
        goOn();
        refused(due, name, a, b);
    }

    private void then(int name, int a, int b) {
        later.add(new Call(name, a, b));
    }

    private void askLetter() {
        later.clear();
        then(FAULT, 0, 0);
        for (int what = 0; what <= 8; what++) {
            then(COUNT, what, 0);
        }
        for (int edge = 0; edge < 16; edge++) {
            for (int what = 0; what <= 4; what++) {
                then(TOLD, edge, what);
            }
        }
        for (int stem = 0; stem < 8; stem++) {
            for (int what = 0; what <= 4; what++) {
                then(STEM, stem, what);
            }
            for (int what = 0; what <= 2; what++) {
                then(KIND, stem, what);
            }
            then(DOTS, stem, 60);
            then(GROWS, stem, 2);
        }
    }

    private void askFits() {
        later.clear();
        for (int size = 1; size <= 60; size++) {
            then(DISTORTION, size, 0);
            then(WHY, size, 1);
        }
        for (int stem = 0; stem < 8; stem++) {
            then(FIT, 3, stem);
            then(FIT, 39, stem);
            then(FIT, 60, stem);
        }
        then(PLACE, 3, 0);
        then(PLACE, 60, 999);
        then(BEST, 60, 0);
    }

    private void goOn() {
        later.clear();
        then(SAY, 'u', 0);
        then(COUNT, 0, 0);
        then(FAULT, 0, 0);
        then(EDGE, 0, 0);
        then(WIPE, 0, 0);
        askShort();
        then(RESTORE, 0, 0);
        askShort();
        then(RESTORE, 1, 0);
        askShort();
        then(ERASE, 0, 0);
        askShort();
        for (int rule = 0; rule <= 4; rule++) {
            then(RULE, rule, 0);
        }
        askShort();
    }

    private void askShort() {
        for (int what = 1; what <= 8; what++) {
            then(COUNT, what, 0);
        }
        then(TOLD, 0, 1);
        then(STEM, 0, 0);
        then(FIT, 60, 0);
        then(DISTORTION, 60, 0);
    }

    /** Calls that are refused whatever else there is. */
    private void always(int edges, int stems, int classes) {
        for (int sign : new int[] {Integer.MIN_VALUE, -1, 0, 32, 127, 128, Integer.MAX_VALUE}) {
            refusedEverywhere(OUTSIDE, SAY, sign, 0);
        }
        unknown(edges, 16, TOLD, ERASE);
        unknown(stems, 8, STEM);
        unknown(classes, 8, KIND, DOTS, GROWS);
        for (int stem : notBelow(stems, 8)) {
            for (int size : ANY) {
                refusedEverywhere(UNKNOWN, FIT, size, stem);
            }
        }
        outsideOf(edges, NOT_0_TO_4, TOLD);
        outsideOf(stems, NOT_0_TO_4, STEM);
        outsideOf(classes, NOT_0_TO_2, KIND);
        outsideOf(classes, NOT_1_TO_60, DOTS, GROWS);
        alwaysRules();
        alwaysFits(stems);
        for (int n : NOT_0_OR_1) {
            refusedEverywhere(OUTSIDE, IMAGE, n, 0);
            refusedEverywhere(OUTSIDE, RESTORE, n, 0);
        }
        for (int what : new int[] {Integer.MIN_VALUE, -1, 9, 10, Integer.MAX_VALUE}) {
            refusedEverywhere(OUTSIDE, COUNT, what, 0);
        }
    }

    private void alwaysRules() {
        int[] most = {99, 9, 9, 3, 3};
        for (int what = 0; what <= 4; what++) {
            for (int n : new int[] {Integer.MIN_VALUE, -1, most[what] + 1, 100, Integer.MAX_VALUE}) {
                refusedEverywhere(OUTSIDE, RULE, what, n);
            }
        }
        for (int what : NOT_0_TO_4) {
            refusedEverywhere(OUTSIDE, RULE, what, 0);
            refusedEverywhere(OUTSIDE, RULE, what, -1);
        }
    }

    private void alwaysFits(int stems) {
        for (int size : NOT_1_TO_60) {
            if (stems > 0) {
                refusedEverywhere(OUTSIDE, FIT, size, stems - 1);
            }
            refusedEverywhere(OUTSIDE, DISTORTION, size, 0);
            refusedEverywhere(OUTSIDE, WHY, size, 0);
            refusedEverywhere(OUTSIDE, WHY, size, 2);
            refusedEverywhere(OUTSIDE, BEST, size, 0);
            refusedEverywhere(GONE + OUTSIDE, PLACE, size, 0);
            refusedEverywhere(GONE + OUTSIDE, PLACE, size, 1000);
        }
        for (int what : NOT_0_OR_1) {
            refusedEverywhere(OUTSIDE, WHY, 1, what);
            refusedEverywhere(OUTSIDE, WHY, 60, what);
        }
        for (int at : NOT_0_TO_999) {
            refusedEverywhere(GONE + OUTSIDE, PLACE, 1, at);
            refusedEverywhere(GONE + OUTSIDE, PLACE, 60, at);
        }
    }

    private static int[] notBelow(int many, int most) {
        return new int[] {Integer.MIN_VALUE, -6, -1, many, many + 1, most, most + 1, Integer.MAX_VALUE};
    }

    /** None of so many: UNKNOWN, whatever else is asked. */
    private void unknown(int many, int most, int... names) {
        for (int name : names) {
            for (int n : notBelow(many, most)) {
                for (int other : ANY) {
                    refusedEverywhere(UNKNOWN, name, n, other);
                }
            }
        }
    }

    private void outsideOf(int many, int[] others, int... names) {
        if (many == 0) {
            return;
        }
        for (int name : names) {
            for (int other : others) {
                refusedEverywhere(OUTSIDE, name, 0, other);
                refusedEverywhere(OUTSIDE, name, many - 1, other);
            }
        }
    }

    private void noFitAt(int size, int stems) {
        for (int stem = 0; stem < stems; stem++) {
            refusedEverywhere(STATE, FIT, size, stem);
        }
        refusedEverywhere(UNKNOWN, FIT, size, stems);
        refusedEverywhere(UNKNOWN, FIT, size, -1);
        refusedEverywhere(STATE, DISTORTION, size, 0);
        refusedEverywhere(GONE + STATE, PLACE, size, 0);
        refusedEverywhere(GONE + STATE, PLACE, size, 999);
        refusedEverywhere(GONE + OUTSIDE, PLACE, size, -1);
        refusedEverywhere(GONE + OUTSIDE, PLACE, size, 1000);
    }

    private void notKept(int n) {
        refusedEverywhere(STATE, RESTORE, n, 0);
    }

    private void ofANewObject() {
        begin("a new object");
        always(0, 0, 0);
        refusedEverywhere(NO, EDGE, 0, 0);
        notKept(0);
        notKept(1);
    }

    private void ofOneEdge() {
        begin("an edge alone, and more must come");
        firstEdges("d500,3-30");
        first(RULE, 0, 0);
        first(RULE, 4, 3);
        firstSay("u7,8-");
        always(1, 0, 0);
        refusedEverywhere(NO, EDGE, 0, 0);
        notKept(0);
        notKept(1);
    }

    private void ofTwoStems() {
        begin("two stems of two classes, and a sign that can not stand");
        firstEdges("u100,0-700", "d180,0-700", "u300,0-700", "d390,10-600");
        first(RULE, 0, 9);
        first(RULE, 3, 1);
        firstSay("u1,2-3x");
        always(4, 2, 2);
        refusedEverywhere(NO, EDGE, 0, 0);
        noFitAt(1, 2);
        noFitAt(2, 2);
        notKept(0);
        notKept(1);
    }

    private void tellFullLetter() {
        for (int s = 0; s < 8; s++) {
            firstEdges("u" + (90 * s) + ",0-7", "d" + (90 * s + 10 + s) + ",0-7");
        }
        first(RULE, 0, 3);
        first(RULE, 4, 3);
    }

    private void ofTheFullLetter() {
        begin("the full letter, and an edge more");
        tellFullLetter();
        firstSay("u1,2-3");
        always(16, 8, 2);
        refusedEverywhere(FULL, EDGE, 0, 0);
        noFitAt(1, 8);
        noFitAt(38, 8);
        notKept(0);
        notKept(1);
        begin("the full letter, and an edge that is no greater in height");
        tellFullLetter();
        firstSay("u1,3-3");
        refusedEverywhere(NO, EDGE, 0, 0);
        begin("the full letter, and the empty pad");
        tellFullLetter();
        refusedEverywhere(NO, EDGE, 0, 0);
    }

    private void ofTheFullPad() {
        begin("the full letter, and the full pad");
        tellFullLetter();
        firstSay("u1,2-3".repeat(5));
        for (int sign : new int[] {33, 'u', '0', 126}) {
            refusedEverywhere(FULL, SAY, sign, 0);
        }
        for (int sign : new int[] {Integer.MIN_VALUE, 32, 127, Integer.MAX_VALUE}) {
            refusedEverywhere(OUTSIDE, SAY, sign, 0);
        }
        refusedEverywhere(NO, EDGE, 0, 0);
        begin("the empty letter, and the full pad");
        firstSay("u".repeat(30));
        refusedEverywhere(FULL, SAY, 'u', 0);
        refusedEverywhere(OUTSIDE, SAY, 32, 0);
        refusedEverywhere(NO, EDGE, 0, 0);
    }

    private void ofImages() {
        for (int kept = 0; kept <= 1; kept++) {
            begin("image " + kept + " is kept, and the letter is another one");
            firstEdges("u100,0-700", "d180,0-700", "u300,0-700", "d390,10-600");
            first(RULE, 3, 2);
            first(IMAGE, kept, 0);
            first(ERASE, 0, 0);
            first(RULE, 3, 3);
            first(RULE, 1, 9);
            notKept(1 - kept);
            for (int n : NOT_0_OR_1) {
                refusedEverywhere(OUTSIDE, IMAGE, n, 0);
                refusedEverywhere(OUTSIDE, RESTORE, n, 0);
            }
            refusedEverywhere(OUTSIDE, RULE, 3, 4);
            refusedEverywhere(UNKNOWN, ERASE, 3, 0);
            refusedEverywhere(NO, EDGE, 0, 0);
        }
    }
}
