/** Term 1, promises 1 to 8: each sentence that names a boundary, by the numbers on both sides of it. */
public final class EdgeBoundsTest extends Cases {
    private static final int FIRST_SIGN = 33, LAST_SIGN = 126;
    private static final String FIGURES = "0123456789";

    public static void main(String[] args) {
        EdgeBoundsTest t = new EdgeBoundsTest();
        t.newObject();
        t.objectsOfTheirOwn();
        t.lastCall();
        t.sixteenEdges();
        t.edgesBehindAreOneLess();
        t.stemsTellNumbersOneLess();
        t.edgesWithoutAStem();
        t.numbersAtTheirEnds();
        t.lowLessThanHigh();
        t.codes();
        t.thirtySigns();
        t.wipesOfEmptyAndFull();
        t.signsThatCanStand();
        t.moreMustCome();
        t.tooManySigns();
        t.padIsEmptyThen();
        t.noEdge();
        t.rulesAtTheirEnds();
        t.check.end("EdgeBoundsTest");
    }

    private void newObject() {
        about = "a new object: no EDGE; TOLERANCE 20, WEIGHTS 1, MODE 0, BOLD 0";
        StemDots x = new StemDots();
        int[] counts = {0, 0, 0, 0, 20, 1, 1, 0, 0};
        for (int what = 0; what < counts.length; what++) {
            due("count " + what, x.count(what), counts[what]);
        }
        due("told", x.told(0, 0), UNKNOWN);
        due("erase", x.erase(0), UNKNOWN);
        due("stem", x.stem(0, 0), UNKNOWN);
        due("kind", x.kind(0, 0), UNKNOWN);
        due("dots", x.dots(0, 1), UNKNOWN);
        due("grows", x.grows(0, 1), UNKNOWN);
        due("fit", x.fit(1, 0), UNKNOWN);
        due("fault", x.fault(), 0);
        due("edge", x.edge(), NO);
        due("wipe", x.wipe(), 0);
        due("restore", x.restore(0), STATE);
        due("first rule was", x.rule(0, 20), 20);
    }

    private void objectsOfTheirOwn() {
        about = "an object has its own EDGES, RULES, PAD and IMAGES";
        StemDots x = stems(100, 180);
        StemDots y = new StemDots();
        x.rule(0, 7);
        x.image(0);
        put(x, "u1");
        due("signs", y.count(0), 0);
        due("edges", y.count(1), 0);
        due("stems", y.count(2), 0);
        due("tolerance", y.count(4), 20);
        due("image", y.restore(0), STATE);
        y.rule(1, 9);
        due("weight", x.count(5), 1);
        due("distortion of the other", x.distortion(10), 200);
        due("distortion", y.distortion(10), 0);
    }

    private void lastCall() {
        about = "512 calls after it has been made";
        StemDots x = stems(100, 180);
        // Twelve for each edge: a wipe, ten signs, the edge.
        for (int call = 25; call <= 511; call++) {
            due("call " + call, x.rule(4, call % 2), 1 - call % 2);
        }
        due("the last one", x.dots(0, 60), 6);
    }

    private static StemDots sixteen() {
        StemDots x = new StemDots();
        for (int n = 0; n < 16; n++) {
            put(x, "u" + (60 * n) + "," + n + "-" + (n + 1));
            x.edge();
        }
        return x;
    }

    private void sixteenEdges() {
        about = "16 at most";
        StemDots x = new StemDots();
        for (int n = 0; n < 16; n++) {
            put(x, "u" + (60 * n) + "," + n + "-" + (n + 1));
            due("comes", x.edge(), n + 1);
            due("how many", x.count(1), n + 1);
            due("the next one there is not", x.told(n + 1, 1), UNKNOWN);
        }
        for (int n = 0; n < 16; n++) {
            edgeIs(x, n, 1, 60 * n, n, n + 1);
        }
        put(x, "d999,0-7");
        due("17th", x.edge(), FULL);
        due("17th again", x.edge(), FULL);
        due("its signs stay", x.count(0), 8);
        due("no edge more", x.count(1), 16);
        due("the last is as it was", x.told(15, 1), 900);
        due("16 there is not", x.told(16, 1), UNKNOWN);
        due("one goes", x.erase(15), 15);
        due("15 there is not", x.told(15, 1), UNKNOWN);
        due("now it comes", x.edge(), 16);
        edgeIs(x, 15, 0, 999, 0, 7);
    }

    private void edgesBehindAreOneLess() {
        about = "those behind one that goes are one less";
        for (int gone = 0; gone < 16; gone++) {
            StemDots x = sixteen();
            due("erase " + gone, x.erase(gone), 15);
            for (int n = 0; n < 15; n++) {
                int was = n < gone ? n : n + 1;
                edgeIs(x, n, 1, 60 * was, was, was + 1);
            }
            due("15 there is not", x.told(15, 0), UNKNOWN);
        }
        about = "the last EDGE goes";
        StemDots x = letter("u5,6-7");
        due("1 there is not", x.erase(1), UNKNOWN);
        due("-1 there is not", x.erase(-1), UNKNOWN);
        due("0", x.erase(0), 0);
        due("none is left", x.erase(0), UNKNOWN);
        due("count", x.count(1), 0);
        put(x, "d8,9-10");
        due("one comes", x.edge(), 1);
        edgeIs(x, 0, 0, 8, 9, 10);
    }

    private void stemsTellNumbersOneLess() {
        about = "a STEM tells its EDGES by their numbers now";
        StemDots x = letter("u900,0-7", "u100,0-7", "d800,0-7", "d150,0-7", "u300,0-7", "d350,0-7");
        stemIs(x, 0, 100, 150, 1, 3, 0);
        stemIs(x, 1, 300, 350, 4, 5, 0);
        due("one before all goes", x.erase(0), 5);
        stemIs(x, 0, 100, 150, 0, 2, 0);
        stemIs(x, 1, 300, 350, 3, 4, 0);
        due("one between goes", x.erase(1), 4);
        stemIs(x, 0, 100, 150, 0, 1, 0);
        stemIs(x, 1, 300, 350, 2, 3, 0);
        int[] stemOf = {0, 0, 1, 1};
        for (int edge = 0; edge < 4; edge++) {
            due("stem of edge " + edge, x.told(edge, 4), stemOf[edge]);
        }
        due("one of the first stem goes", x.erase(1), 3);
        due("it has none now", x.told(0, 4), NONE);
        due("the second is the first", x.told(1, 4), 0);
        due("there is no other one", x.stem(1, 0), UNKNOWN);
    }

    private void edgesWithoutAStem() {
        about = "its STEM (4; NONE)";
        due("of the first edge", letter("u100,0-700").told(0, 4), NONE);
        StemDots x = letter("u100,0-700", "d180,0-700", "u500,0-700");
        due("of one without", x.told(2, 4), NONE);
        put(x, "d590,0-700");
        x.edge();
        due("now it has one", x.told(2, 4), 1);
        due("the other goes", x.erase(3), 3);
        due("now it has none", x.told(2, 4), NONE);
        due("that of the first stem goes", x.erase(1), 2);
        due("none", x.told(0, 4), NONE);
        due("none", x.told(1, 4), NONE);
    }

    private void numbersAtTheirEnds() {
        about = "all 0 to 999, one to three figures";
        Object[][] rows = {{"u0,0-1", 1, 0, 0, 1}, {"d0,0-999", 0, 0, 0, 999}, {"u999,998-999", 1, 999, 998, 999},
            {"d999,0-1", 0, 999, 0, 1}, {"u00,00-01", 1, 0, 0, 1}, {"d000,000-001", 0, 0, 0, 1},
            {"u9,9-10", 1, 9, 9, 10}, {"u10,10-11", 1, 10, 10, 11}, {"d99,99-100", 0, 99, 99, 100},
            {"d100,100-101", 0, 100, 100, 101}, {"u009,008-009", 1, 9, 8, 9}, {"u090,080-090", 1, 90, 80, 90},
            {"u1,0-999", 1, 1, 0, 999}, {"d998,997-998", 0, 998, 997, 998}, {"u123,456-789", 1, 123, 456, 789}};
        for (Object[] row : rows) {
            StemDots x = new StemDots();
            put(x, (String) row[0]);
            due("fault of " + row[0], x.fault(), NONE);
            due("edge of " + row[0], x.edge(), 1);
            edgeIs(x, 0, (int) row[1], (int) row[2], (int) row[3], (int) row[4]);
        }
        about = "1000 has four figures";
        faultIs("u1000,0-1", 4);
        faultIs("u0,1000-1", 6);
        faultIs("u0,0-1000", 8);
        faultIs("d0001,0-1", 4);
        faultIs("d1,0000-1", 6);
        faultIs("d1,0-0001", 8);
    }

    private void faultIs(String text, int place) {
        StemDots x = new StemDots();
        put(x, text);
        due("fault of '" + text + "'", x.fault(), place);
        due("fault of '" + text + "' again", x.fault(), place);
        due("signs of '" + text + "'", x.count(0), text.length());
        due("edge of '" + text + "'", x.edge(), place == NONE ? 1 : NO);
        due("signs after '" + text + "'", x.count(0), place == NONE ? 0 : text.length());
        due("edges after '" + text + "'", x.count(1), place == NONE ? 1 : 0);
    }

    private void lowLessThanHigh() {
        about = "LOW less than HIGH; the number of signs, if HIGH is not greater than LOW";
        faultIs("u5,0-1", NONE);
        faultIs("u5,0-0", 6);
        faultIs("u5,1-0", 6);
        faultIs("d5,500-501", NONE);
        faultIs("d5,500-500", 10);
        faultIs("d5,501-500", 10);
        faultIs("u5,998-999", NONE);
        faultIs("u5,999-999", 10);
        faultIs("u5,999-998", 10);
        faultIs("u5,999-0", 8);
        faultIs("u5,9-10", NONE);
        faultIs("u5,10-9", 7);
        faultIs("u5,007-7", 8);
        faultIs("u5,7-007", 8);
        faultIs("u5,7-008", NONE);
        about = "a sign that can not stand there is told before it";
        faultIs("u5,9-9-", 6);
        faultIs("u5,9-8x", 6);
        faultIs("u5,999-9980", 10);
    }

    private void codes() {
        about = "codes 33 to 126";
        StemDots x = new StemDots();
        for (int code : new int[] {Integer.MIN_VALUE, -33, -1, 0, 10, 31, 32, 127, 128, 255, 256 + 'u', 65536 + 'u',
            Integer.MAX_VALUE}) {
            due("" + code, x.say(code), OUTSIDE);
            due("none came by " + code, x.count(0), 0);
        }
        for (int code = FIRST_SIGN; code <= LAST_SIGN; code++) {
            due("" + code, x.say(code), 1);
            due("wipe", x.wipe(), 1);
        }
    }

    private void thirtySigns() {
        about = "30 signs at most";
        StemDots x = new StemDots();
        String text = "u1,2-3".repeat(5);
        for (int n = 0; n < 30; n++) {
            due("sign " + n, x.say(text.charAt(n)), n + 1);
            due("signs", x.count(0), n + 1);
        }
        due("31st", x.say('u'), FULL);
        due("31st again", x.say(33), FULL);
        due("31st of 126", x.say(126), FULL);
        due("31st that is no sign", x.say(32), OUTSIDE);
        due("31st that is no sign", x.say(127), OUTSIDE);
        due("signs", x.count(0), 30);
        due("fault", x.fault(), 6);
        due("edge", x.edge(), NO);
        due("signs stay", x.count(0), 30);
        due("wipe", x.wipe(), 30);
        due("signs", x.count(0), 0);
        due("fault of the empty one", x.fault(), 0);
        due("the first again", x.say('u'), 1);
        due("what was there is gone", x.fault(), 1);
    }

    private void wipesOfEmptyAndFull() {
        about = "how many signs there were";
        StemDots x = new StemDots();
        due("none", x.wipe(), 0);
        due("none again", x.wipe(), 0);
        for (int most = 1; most <= 30; most += 7) {
            for (int n = 0; n < most; n++) {
                x.say('x');
            }
            due(most + " of them", x.wipe(), most);
            due("none", x.wipe(), 0);
        }
    }

    private void signsThatCanStand() {
        about = "the first sign that can not stand there";
        canStand("", "ud");
        for (String up : new String[] {"u", "d"}) {
            canStand(up, FIGURES);
            canStand(up + "1", FIGURES + ",");
            canStand(up + "12", FIGURES + ",");
            canStand(up + "123", ",");
            canStand(up + "1,", FIGURES);
            canStand(up + "1,2", FIGURES + "-");
            canStand(up + "1,23", FIGURES + "-");
            canStand(up + "1,234", "-");
            canStand(up + "123,4-", FIGURES);
            canStand(up + "1,2-3", FIGURES);
            canStand(up + "12,3-45", FIGURES);
            canStand(up + "1,2-345", "");
            canStand(up + "123,456-789", "");
        }
    }

    /** After these signs: each code, and that the fault lies on it if it is none of those, and farther on if it is. */
    private void canStand(String before, String those) {
        for (int code = FIRST_SIGN; code <= LAST_SIGN; code++) {
            StemDots x = new StemDots();
            put(x, before);
            x.say(code);
            int fault = x.fault();
            if (those.indexOf(code) < 0) {
                due("'" + before + (char) code + "'", fault, before.length());
                x.say('1');
                due("'" + before + (char) code + "1'", x.fault(), before.length());
            } else {
                due("'" + before + (char) code + "' can stand", fault == NONE ? before.length() + 1 : fault,
                    before.length() + 1);
            }
        }
    }

    private void moreMustCome() {
        about = "the number of signs, if more must come";
        String text = "u123,456-789";
        for (int signs = 0; signs < text.length(); signs++) {
            // 7 and 78 are not greater than 456, so the fault stays at the end until all have come.
            faultIs(text.substring(0, signs), signs);
        }
        faultIs(text, NONE);
        faultIs("d1,2", 4);
        faultIs("d1,2-", 5);
        faultIs("d1,2-3", NONE);
        faultIs("d1,2-34", NONE);
        faultIs("d1,2-345", NONE);
        about = "more must come, sign by sign";
        StemDots x = new StemDots();
        for (int n = 0; n < text.length(); n++) {
            due("before sign " + n, x.fault(), n);
            due("edge before sign " + n, x.edge(), NO);
            x.say(text.charAt(n));
        }
        due("all came", x.fault(), NONE);
        x.say('0');
        due("one more", x.fault(), 12);
    }

    private void tooManySigns() {
        about = "a sign behind all of them";
        faultIs("u123,456-7890", 12);
        faultIs("u123,456-789,", 12);
        faultIs("u123,456-789u", 12);
        faultIs("u123,456-789012345678901234567", 12);
        faultIs("u1,2-3,", 6);
        faultIs("u1,2-3u1,2-3", 6);
        faultIs("x".repeat(30), 0);
        faultIs("u" + "1".repeat(29), 4);
    }

    private void padIsEmptyThen() {
        about = "the PAD is empty then";
        StemDots x = new StemDots();
        put(x, "u1,2-3");
        due("edge", x.edge(), 1);
        due("signs", x.count(0), 0);
        due("fault", x.fault(), 0);
        due("edge of the empty pad", x.edge(), NO);
        due("wipe", x.wipe(), 0);
        due("a sign", x.say('d'), 1);
        due("more must come", x.fault(), 1);
        due("edges", x.count(1), 1);
    }

    private void noEdge() {
        about = "there is no such EDGE";
        StemDots x = letter("u10,1-7", "d20,2-8");
        for (int edge : new int[] {Integer.MIN_VALUE, -6, -1, 2, 3, 15, 16, 17, Integer.MAX_VALUE}) {
            for (int what = -1; what <= 5; what++) {
                due("told " + edge + " " + what, x.told(edge, what), UNKNOWN);
            }
            due("erase " + edge, x.erase(edge), UNKNOWN);
        }
        for (int edge = 0; edge < 2; edge++) {
            for (int what : new int[] {Integer.MIN_VALUE, -1, 5, 6, Integer.MAX_VALUE}) {
                due("told " + edge + " " + what, x.told(edge, what), OUTSIDE);
            }
        }
        edgeIs(x, 0, 1, 10, 1, 7);
        edgeIs(x, 1, 0, 20, 2, 8);
        due("stem", x.told(1, 4), 0);
    }

    private void rulesAtTheirEnds() {
        about = "TOLERANCE 0 to 99, WEIGHTS 0 to 9, MODE 0 to 3, BOLD 0 to 3: which it was";
        int[] first = {20, 1, 1, 0, 0};
        int[] most = {99, 9, 9, 3, 3};
        for (int what = 0; what < 5; what++) {
            StemDots x = new StemDots();
            int was = first[what];
            for (int n = 0; n <= most[what]; n++) {
                due("rule " + what + " " + n, x.rule(what, n), was);
                due("count " + what, x.count(4 + what), n);
                was = n;
            }
            for (int n : new int[] {most[what] + 1, -1, 100, Integer.MIN_VALUE, Integer.MAX_VALUE}) {
                due("rule " + what + " " + n, x.rule(what, n), OUTSIDE);
                due("count " + what, x.count(4 + what), most[what]);
            }
            for (int other = 0; other < 5; other++) {
                due("rule " + other + " beside " + what, x.count(4 + other), other == what ? most[what] : first[other]);
            }
        }
        StemDots x = new StemDots();
        for (int what : new int[] {Integer.MIN_VALUE, -1, 5, 6, Integer.MAX_VALUE}) {
            due("rule " + what, x.rule(what, 0), OUTSIDE);
        }
    }
}
