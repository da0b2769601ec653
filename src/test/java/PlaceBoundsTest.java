/** Term 4, promises 17 to 20: each sentence that names a boundary, by the numbers on both sides of it. */
public final class PlaceBoundsTest extends Cases {
    private static final int[] NO_IMAGES = {Integer.MIN_VALUE, -1, 2, 3, Integer.MAX_VALUE};

    public static void main(String[] args) {
        PlaceBoundsTest t = new PlaceBoundsTest();
        t.whereItBeginsAndEnds();
        t.besideIt();
        t.cutTowardsZero();
        t.lessThanZero();
        t.oneBesideTheOther();
        t.withoutAStem();
        t.numbersAtTheirEnds();
        t.goneAndTheRefusal();
        t.twoImages();
        t.imageOfEmptyAndFull();
        t.padIsNoPart();
        t.rulesAtTheirEnds();
        t.imageStaysAsItWasKept();
        t.restoredLetterAnswers();
        t.counts();
        t.check.end("PlaceBoundsTest");
    }

    private void placesAre(StemDots x, int size, int... xsAndPlaces) {
        for (int n = 0; n < xsAndPlaces.length; n += 2) {
            due("at " + size + ", " + xsAndPlaces[n], x.place(size, xsAndPlaces[n]), xsAndPlaces[n + 1]);
        }
    }

    private void whereItBeginsAndEnds() {
        about = "of LEFT, RIGHT of a STEM 1000 times where it begins, ends";
        StemDots x = stems(100, 180, 300, 390);
        placesAre(x, 3, 100, 0, 180, 1000, 300, 2000, 390, 3000);
        placesAre(x, 10, 100, 1000, 180, 2000, 300, 3000, 390, 4000);
        placesAre(x, 60, 100, 6000, 180, 11000, 300, 18000, 390, 23000);
        x.rule(4, 3);
        placesAre(x, 9, 100, 0, 180, 4000, 300, 5000, 390, 9000);
    }

    private void besideIt() {
        about = "beside LEFT and RIGHT";
        StemDots x = stems(100, 180, 300, 390);
        placesAre(x, 60, 99, 5940, 101, 6062, 179, 10937, 181, 11058, 299, 17941, 301, 18055, 389, 22944, 391, 23060);
        about = "a STEM at the letter's ends";
        placesAre(stems(0, 100), 10, 0, 0, 1, 10, 99, 990, 100, 1000, 101, 1010, 999, 9990);
        placesAre(stems(899, 999), 10, 999, 10000, 998, 9990, 899, 9000, 898, 8990, 0, 10);
        placesAre(stems(0, 1), 1, 0, 0, 1, 1000, 2, 1001, 999, 1998);
        placesAre(stems(998, 999), 1, 997, -1, 998, 0, 999, 1000, 0, -998);
    }

    private void cutTowardsZero() {
        about = "along, cut towards 0 of what is behind the first";
        // A seventh of a dot for each X: 142.86, 285.7, 428.6, 571.4, 714.3, 857.1.
        StemDots x = stems(500, 507);
        due("it lies on dot", x.fit(1, 0), 0);
        placesAre(x, 1, 500, 0, 501, 142, 502, 285, 503, 428, 504, 571, 505, 714, 506, 857, 507, 1000);
        due("on dot 5", x.fit(10, 0), 5);
        placesAre(x, 10, 500, 5000, 501, 5142, 506, 5857, 507, 6000, 508, 6010);
        about = "between two STEMS, likewise";
        x = stems(100, 200, 207, 300);
        due("on dot", x.fit(10, 0), 1);
        due("on dot", x.fit(10, 1), 3);
        placesAre(x, 10, 200, 2000, 201, 2142, 202, 2285, 206, 2857, 207, 3000);
    }

    private void lessThanZero() {
        about = "before the first one: X, as far from that as it is, times SIZE";
        StemDots x = stems(100, 180, 300, 390);
        placesAre(x, 3, 0, -300, 1, -297, 99, -3, 100, 0);
        x = stems(998, 999);
        x.rule(4, 3);
        due("on dot 0", x.fit(4, 0), 0);
        placesAre(x, 4, 0, -3992, 997, -4, 998, 0);
        about = "eight STEMS far to the right, pressed to the left";
        x = stems(984, 985, 986, 987, 988, 989, 990, 991, 992, 993, 994, 995, 996, 997, 998, 999);
        x.rule(4, 3);
        placesAre(x, 39, 0, -38376, 983, -39, 984, 0, 985, 4000, 986, 5000, 999, 39000);
        about = "behind the last one";
        x = stems(0, 1, 2, 3, 4, 5, 6, 7, 8, 9, 10, 11, 12, 13, 14, 15);
        x.rule(4, 3);
        placesAre(x, 39, 15, 39000, 16, 39039, 999, 39000 + 984 * 39);
        placesAre(x, 60, 15, 39000, 16, 39060, 999, 39000 + 984 * 60);
    }

    private void oneBesideTheOther() {
        about = "between RIGHT and a LEFT beside it there is no X";
        StemDots x = stems(100, 200, 201, 300);
        due("first", x.fit(10, 0), 1);
        due("second", x.fit(10, 1), 3);
        placesAre(x, 10, 199, 1990, 200, 2000, 201, 3000, 202, 3010);
    }

    private void withoutAStem() {
        about = "without a STEM: X times SIZE";
        for (StemDots x : new StemDots[] {new StemDots(), letter("u500,0-7"), letter("d10,0-7", "u900,0-7")}) {
            placesAre(x, 1, 0, 0, 1, 1, 500, 500, 999, 999);
            placesAre(x, 60, 0, 0, 1, 60, 500, 30000, 999, 59940);
            due("size 61", x.place(61, 0), GONE + OUTSIDE);
            due("x 1000", x.place(60, 1000), GONE + OUTSIDE);
        }
    }

    private void numbersAtTheirEnds() {
        about = "OUTSIDE: SIZE, X 0 to 999";
        for (StemDots x : new StemDots[] {new StemDots(), stems(100, 180), stems(100, 180, 300, 390)}) {
            for (int size : new int[] {Integer.MIN_VALUE, -1, 0, 61, 62, Integer.MAX_VALUE}) {
                for (int at : new int[] {-1, 0, 999, 1000}) {
                    due(size + ", " + at, x.place(size, at), GONE + OUTSIDE);
                }
            }
            for (int at : new int[] {Integer.MIN_VALUE, -1, 1000, 1001, Integer.MAX_VALUE}) {
                for (int size : new int[] {1, 2, 60}) {
                    due(size + ", " + at, x.place(size, at), GONE + OUTSIDE);
                }
            }
            placesAre(x, 60, 0, 0);
        }
    }

    private void goneAndTheRefusal() {
        about = "GONE and the refusal";
        due("outside", new StemDots().place(0, 0), -10000002);
        StemDots x = stems(100, 180, 300, 390);
        due("state", x.place(2, 0), -10000003);
        due("state", x.place(1, 999), -10000003);
        due("both: outside", x.place(2, 1000), -10000002);
        due("both: outside", x.place(1, -1), -10000002);
        due("there is a fit at 3", x.place(3, 0), -300);
    }

    private void twoImages() {
        about = "an IMAGE (0, 1)";
        StemDots x = stems(100, 180);
        for (int n : NO_IMAGES) {
            due("image " + n, x.image(n), OUTSIDE);
            due("restore " + n, x.restore(n), OUTSIDE);
        }
        due("0 was not kept", x.restore(0), STATE);
        due("1 was not kept", x.restore(1), STATE);
        due("edges stay", x.count(1), 2);
        due("keep 1", x.image(1), 1);
        due("0 was not kept", x.restore(0), STATE);
        x.erase(0);
        due("keep 0", x.image(0), 1);
        due("1", x.restore(1), 1);
        due("two edges", x.count(1), 2);
        due("0", x.restore(0), 1);
        due("one edge", x.count(1), 1);
        for (int n : NO_IMAGES) {
            due("image " + n, x.image(n), OUTSIDE);
            due("restore " + n, x.restore(n), OUTSIDE);
        }
        due("one edge still", x.count(1), 1);
    }

    private void imageOfEmptyAndFull() {
        about = "an IMAGE of the empty letter, and of the full one";
        StemDots x = new StemDots();
        due("keep the empty one", x.image(0), 1);
        for (int n = 0; n < 16; n++) {
            put(x, "u" + (60 * n) + ",0-7");
            x.edge();
        }
        due("keep the full one", x.image(1), 1);
        due("the empty one", x.restore(0), 1);
        due("edges", x.count(1), 0);
        due("told", x.told(0, 0), UNKNOWN);
        put(x, "d5,0-7");
        due("one comes", x.edge(), 1);
        due("the full one", x.restore(1), 1);
        due("edges", x.count(1), 16);
        edgeIs(x, 0, 1, 0, 0, 7);
        edgeIs(x, 15, 1, 900, 0, 7);
        put(x, "d5,0-7");
        due("it is full", x.edge(), FULL);
        due("one goes", x.erase(15), 15);
        due("one comes", x.edge(), 16);
        due("the full one again", x.restore(1), 1);
        edgeIs(x, 15, 1, 900, 0, 7);
    }

    private void padIsNoPart() {
        about = "EDGES, RULES are kept: the PAD stays";
        StemDots x = stems(100, 180);
        put(x, "u1,2");
        due("keep", x.image(0), 1);
        due("signs", x.count(0), 4);
        due("a sign more", x.say('-'), 5);
        due("restore", x.restore(0), 1);
        due("signs", x.count(0), 5);
        due("fault", x.fault(), 5);
        x.say('3');
        due("edge", x.edge(), 3);
        due("restore", x.restore(0), 1);
        due("signs", x.count(0), 0);
        due("edges", x.count(1), 2);
    }

    private void rulesAtTheirEnds() {
        about = "the RULES as they were";
        int[] most = {99, 9, 9, 3, 3};
        int[] first = {20, 1, 1, 0, 0};
        StemDots x = new StemDots();
        x.image(0);
        for (int what = 0; what < 5; what++) {
            x.rule(what, most[what]);
        }
        x.image(1);
        for (int what = 0; what < 5; what++) {
            x.rule(what, 0);
        }
        x.restore(1);
        for (int what = 0; what < 5; what++) {
            due("rule " + what, x.count(4 + what), most[what]);
        }
        x.restore(0);
        for (int what = 0; what < 5; what++) {
            due("rule " + what, x.count(4 + what), first[what]);
            due("which it was " + what, x.rule(what, 0), first[what]);
        }
    }

    private void imageStaysAsItWasKept() {
        about = "as they were when they were kept";
        StemDots x = letter("u100,1-700", "d180,2-600", "u5,3-4");
        x.image(0);
        x.erase(0);
        put(x, "d7,8-9");
        x.edge();
        x.rule(0, 5);
        for (int times = 0; times < 3; times++) {
            due("restore", x.restore(0), 1);
            due("edges", x.count(1), 3);
            edgeIs(x, 0, 1, 100, 1, 700);
            edgeIs(x, 1, 0, 180, 2, 600);
            edgeIs(x, 2, 1, 5, 3, 4);
            due("tolerance", x.count(4), 20);
            x.erase(times);
            x.rule(0, times);
            put(x, "d9,0-9");
            x.edge();
        }
        about = "kept again: as it was then";
        due("keep", x.image(0), 1);
        x.erase(0);
        due("restore", x.restore(0), 1);
        edgeIs(x, 2, 0, 9, 0, 9);
        due("tolerance", x.count(4), 2);
    }

    private void restoredLetterAnswers() {
        about = "what is restored answers at once";
        StemDots x = stems(100, 180, 300, 390);
        x.image(0);
        due("no fit at 2", x.why(2, 0), 2);
        due("distortion", x.distortion(10), 700);
        x.erase(3);
        due("a fit at 2", x.why(2, 0), 0);
        due("distortion", x.distortion(10), 200);
        due("restore", x.restore(0), 1);
        due("stems", x.count(2), 2);
        due("stem of the last edge", x.told(3, 4), 1);
        due("no fit at 2", x.why(2, 0), 2);
        due("distortion", x.distortion(10), 700);
        due("place", x.place(10, 391), 4010);
        x.rule(0, 0);
        due("classes", x.count(3), 2);
        x.restore(0);
        due("classes", x.count(3), 1);
    }

    private void counts() {
        about = "count: 0 to 8";
        StemDots x = stems(0, 100, 200, 280, 400, 485, 600, 705);
        put(x, "u12");
        x.rule(0, 99);
        x.rule(1, 8);
        x.rule(2, 7);
        x.rule(3, 2);
        x.rule(4, 1);
        int[] counts = {3, 8, 4, 1, 99, 8, 7, 2, 1};
        for (int what = 0; what < counts.length; what++) {
            due("" + what, x.count(what), counts[what]);
        }
        for (int what : new int[] {Integer.MIN_VALUE, -1, 9, 10, Integer.MAX_VALUE}) {
            due("" + what, x.count(what), OUTSIDE);
        }
    }
}
