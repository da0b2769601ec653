/**
 * Letters of many stems at all sizes: fits of so many ways that they can not all be tried. They are compared with
 * those that the model builds by prefixes, and where all ways can be tried, these are compared with the tried ones.
 */
public final class GreatFitsTest {
    private static final int LETTERS = 240, SIZES = 60, MOST_CALLS = 512;

    private final Check check = new Check();
    // A row of numbers that is the same in every run of the test.
    private long row = 20261120L;
    private int great = 0, tried = 0;

    private StemDots x;
    private Model m;
    private int letter, calls;

    public static void main(String[] args) {
        GreatFitsTest t = new GreatFitsTest();
        for (int letter = 1; letter <= LETTERS && t.check.failed() < 20; letter++) {
            t.tellLetter(letter);
            t.compareFits();
            t.compareBest();
            t.check.holds("calls are few enough", t.calls <= MOST_CALLS);
            t.compareModels();
        }
        t.check.holds("fits of more ways than can be tried were many", t.great > 1500);
        t.check.holds("fits of which all ways were tried were many", t.tried > 2000);
        t.check.end("GreatFitsTest");
    }

    private int any(int below) {
        row = row * 6364136223846793005L + 1442695040888963407L;
        return (int) ((row >>> 33) % below);
    }

    private void due(String call, long got, long want) {
        check.due("letter " + letter + ": " + call, got, want);
        calls++;
    }

    private void tellLetter(int number) {
        letter = number;
        calls = 0;
        x = new StemDots();
        m = new Model();
        m.byPrefixes = true;
        int stems = 3 + any(6);
        // Spread over the letter, or pressed to one side of it.
        int each = any(3) == 0 ? 10 + any(40) : 999 / stems;
        int from = any(2) == 0 ? 0 : any(1000 - each * stems);
        for (int s = 0; s < stems; s++) {
            int left = from + s * each + any(each / 2);
            int right = left + 1 + any(Math.min(290, each / 2 - 1));
            tell("u" + left + ",0-700");
            tell("d" + right + ",0-700");
        }
        rule(0, any(100));
        rule(1, any(4) == 0 ? any(10) : 1);
        rule(2, any(4) == 0 ? any(10) : 1);
        rule(3, number % 4);
        rule(4, any(2) == 0 ? 0 : any(4));
        due("stems", x.count(2), stems);
    }

    private void tell(String text) {
        for (int n = 0; n < text.length(); n++) {
            due("say " + text.charAt(n), x.say(text.charAt(n)), m.say(text.charAt(n)));
        }
        due("edge " + text, x.edge(), m.edge());
    }

    private void rule(int what, int n) {
        due("rule " + what + " " + n, x.rule(what, n), m.rule(what, n));
    }

    private void compareFits() {
        int stems = m.stems.size();
        for (int n = 0; n < 20; n++) {
            int size = n == 0 ? SIZES : SIZES - any(any(3) == 0 ? SIZES : 40);
            great += m.knows(size) ? 0 : 1;
            due("distortion " + size, x.distortion(size), m.distortion(size));
            for (int s = 0; s < stems; s++) {
                due("fit " + size + " " + s, x.fit(size, s), m.fit(size, s));
            }
            int at = any(1000);
            due("place " + size + " " + at, x.place(size, at), m.place(size, at));
            due("why " + size, x.why(size, 1), m.why(size, 1));
        }
    }

    private void compareBest() {
        due("best " + SIZES, x.best(SIZES), m.best(SIZES));
        int most = 1 + any(SIZES);
        due("best " + most, x.best(most), m.best(most));
    }

    private void compareModels() {
        Model all = new Model();
        all.edges = m.edges;
        for (int what = 0; what < 5; what++) {
            all.rule(what, m.rules[what]);
        }
        for (int size = 1; size <= SIZES; size++) {
            if (!all.knows(size) || all.ways(size) < 2) {
                continue;
            }
            tried++;
            due("distortion " + size + ", tried", m.distortion(size), all.distortion(size));
            for (int s = 0; s < m.stems.size(); s++) {
                due("fit " + size + " " + s + ", tried", m.fit(size, s), all.fit(size, s));
            }
        }
    }
}
