/** What the tests by hand have in common: the document's refusals, letters to ask, answers that are due. */
abstract class Cases {
    static final int NONE = -6, UNKNOWN = -1, OUTSIDE = -2, STATE = -3, FULL = -4, NO = -5;
    static final int GONE = -10000000;
    static final int[] FAR = {Integer.MIN_VALUE, Integer.MAX_VALUE};

    final Check check = new Check();
    String about = "";

    void due(String call, long got, long want) {
        check.due(about + ": " + call, got, want);
    }

    static void put(StemDots x, String text) {
        x.wipe();
        for (int n = 0; n < text.length(); n++) {
            x.say(text.charAt(n));
        }
    }

    static StemDots letter(String... edges) {
        StemDots x = new StemDots();
        for (String edge : edges) {
            put(x, edge);
            x.edge();
        }
        return x;
    }

    /** Stems by their lefts and rights, all of one height. */
    static StemDots stems(int... leftsAndRights) {
        StemDots x = new StemDots();
        for (int n = 0; n < leftsAndRights.length; n++) {
            put(x, (n % 2 == 0 ? "u" : "d") + leftsAndRights[n] + ",0-700");
            x.edge();
        }
        return x;
    }

    void edgeIs(StemDots x, int edge, int up, int at, int low, int high) {
        due("up of " + edge, x.told(edge, 0), up);
        due("x of " + edge, x.told(edge, 1), at);
        due("low of " + edge, x.told(edge, 2), low);
        due("high of " + edge, x.told(edge, 3), high);
    }

    void stemIs(StemDots x, int stem, int left, int right, int up, int down, int kind) {
        due("left of " + stem, x.stem(stem, 0), left);
        due("right of " + stem, x.stem(stem, 1), right);
        due("up of " + stem, x.stem(stem, 2), up);
        due("down of " + stem, x.stem(stem, 3), down);
        due("class of " + stem, x.stem(stem, 4), kind);
    }

    void kindIs(StemDots x, int kind, int stems, int least, int standard) {
        due("stems of " + kind, x.kind(kind, 0), stems);
        due("least of " + kind, x.kind(kind, 1), least);
        due("standard of " + kind, x.kind(kind, 2), standard);
    }
}
