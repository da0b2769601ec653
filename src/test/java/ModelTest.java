/** Long runs of calls, each answer compared with the model's. */
public final class ModelTest {
    private static final int RUNS = 3000, CALLS = 512;

    private final Check check = new Check();
    // A row of numbers that is the same in every run of the test.
    private long row = 20261119L;
    // By how many stems: how often there was more than one way to lay them.
    private final int[] compared = new int[9];

    private StemDots x;
    private Model m;
    private int run;

    public static void main(String[] args) {
        ModelTest t = new ModelTest();
        for (int run = 1; run <= RUNS && t.check.failed() < 20; run++) {
            t.play(run);
        }
        for (int stems = 0; stems <= 8; stems++) {
            t.check.holds("fits of " + stems + " stems were compared often", t.compared[stems] > 200);
        }
        t.check.end("ModelTest");
    }

    private int any(int below) {
        row = row * 6364136223846793005L + 1442695040888963407L;
        return (int) ((row >>> 33) % below);
    }

    private void play(int number) {
        run = number;
        x = new StemDots();
        m = new Model();
        int most = 2 + any(15);
        int calls = any(2) == 0 ? 0 : tellStems(2 + any(7));
        while (calls + 30 < CALLS) {
            int choice = any(100);
            if (choice < 22 && (m.edges.size() < most || any(40) == 0)) {
                calls += tellEdge();
            } else {
                calls += choice < 30 ? change() : ask();
            }
        }
    }

    private void due(String call, long got, long want) {
        check.due("run " + run + ": " + call, got, want);
    }

    private int tellStems(int stems) {
        int calls = 0;
        int each = 999 / stems;
        for (int s = 0; s < stems; s++) {
            int left = s * each + any(each / 2);
            int right = left + 1 + any(each / 2 - 1);
            calls += tell("d" + right + ",0-700") + tell("u" + left + ",0-700");
        }
        return calls;
    }

    private int tellEdge() {
        return tell(any(12) == 0 ? brokenText() : text());
    }

    private int tell(String text) {
        for (int n = 0; n < text.length(); n++) {
            due("say " + text.charAt(n), x.say(text.charAt(n)), m.say(text.charAt(n)));
        }
        due("fault " + m.pad, x.fault(), m.fault());
        due("edge " + m.pad, x.edge(), m.edge());
        due("wipe", x.wipe(), m.wipe());
        return text.length() + 3;
    }

    private String text() {
        int at = any(4) == 0 ? any(1000) : any(20) * 50;
        boolean up = any(2) == 0;
        if (!up && any(3) > 0 && !m.edges.isEmpty()) {
            at = Math.min(999, m.edges.get(any(m.edges.size())).x() + 1 + any(120));
        }
        int low = any(3) == 0 ? any(700) : 0;
        int high = any(3) == 0 ? low + 1 + any(999 - low) : 700 + any(300);
        return (up ? "u" : "d") + at + "," + low + "-" + high;
    }

    private String brokenText() {
        String signs = "ud0123456789,-x";
        StringBuilder text = new StringBuilder(text());
        for (int n = any(3); n >= 0; n--) {
            int at = any(text.length());
            char sign = signs.charAt(any(signs.length()));
            switch (any(3)) {
                case 0 -> text.setCharAt(at, sign);
                case 1 -> text.insert(at, sign);
                default -> text.setLength(at + 1);
            }
        }
        return text.toString();
    }

    private int change() {
        int a = any(7) - 1;
        switch (any(6)) {
            case 0 -> {
                int edge = any(19) - 1;
                if (any(3) > 0) {
                    due("erase " + edge, x.erase(edge), m.erase(edge));
                }
            }
            case 1 -> due("image " + (a - 1), x.image(a - 1), m.image(a - 1));
            case 2 -> due("restore " + (a - 1), x.restore(a - 1), m.restore(a - 1));
            default -> {
                int n = any(3) == 0 ? any(103) - 2 : any(6) - 1;
                due("rule " + a + " " + n, x.rule(a, n), m.rule(a, n));
            }
        }
        return 1;
    }

    private int ask() {
        int a = any(m.stems.size() + 2) - 1;
        int b = any(7) - 1;
        int size = any(63) - 1;
        switch (any(11)) {
            case 0 -> due("told " + a + " " + b, x.told(a, b), m.told(a, b));
            case 1 -> due("stem " + a + " " + b, x.stem(a, b), m.stem(a, b));
            case 2 -> due("kind " + a + " " + b, x.kind(a, b), m.kind(a, b));
            case 3 -> due("dots " + a + " " + size, x.dots(a, size), m.dots(a, size));
            case 4 -> due("grows " + a + " " + (size / 2), x.grows(a, size / 2), m.grows(a, size / 2));
            case 5 -> due("why " + size + " " + b, x.why(size, b % 3), m.why(size, b % 3));
            case 6 -> due("count " + (a + b), x.count(a + b), m.count(a + b));
            case 7 -> askBest(size);
            default -> askFit(size, a);
        }
        return 3;
    }

    private void askBest(int most) {
        if (m.knowsBest(most)) {
            due("best " + most, x.best(most), m.best(most));
        }
    }

    private void askFit(int size, int stem) {
        int at = any(1004) - 2;
        if (m.knows(size)) {
            if (m.ways(size) > (m.stems.isEmpty() ? 0 : 1)) {
                compared[m.stems.size()]++;
            }
            due("fit " + size + " " + stem, x.fit(size, stem), m.fit(size, stem));
            due("distortion " + size, x.distortion(size), m.distortion(size));
            due("place " + size + " " + at, x.place(size, at), m.place(size, at));
        }
    }
}
