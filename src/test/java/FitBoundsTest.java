/** Term 3, promises 13 to 16: each sentence that names a boundary, by the numbers on both sides of it. */
public final class FitBoundsTest extends Cases {
    private static final int[] NO_SIZES = {Integer.MIN_VALUE, -60, -1, 0, 61, 62, Integer.MAX_VALUE};

    public static void main(String[] args) {
        FitBoundsTest t = new FitBoundsTest();
        t.sizesAtTheirEnds();
        t.fromDotZeroOn();
        t.noFartherThanSize();
        t.aDotBehindItsEnd();
        t.eightStems();
        t.driftOfAStem();
        t.driftOfAGap();
        t.squaresAreCut();
        t.squaresOfGapsAreCut();
        t.weightsAtTheirEnds();
        t.addedOrTheGreatest();
        t.asLittle();
        t.asLittleByTheWorst();
        t.withoutAStem();
        t.everySizeFollows();
        t.noPlaceIsLeft();
        t.tooWideOrCrowded();
        t.whatAtItsEnds();
        t.bestUpToMost();
        t.bestExactly();
        t.bestOfGreatOnes();
        t.check.end("FitBoundsTest");
    }

    private static StemDots bold(int bold, int... leftsAndRights) {
        StemDots x = stems(leftsAndRights);
        x.rule(4, bold);
        return x;
    }

    private static StemDots ruled(int stemWeight, int gapWeight, int mode, int... leftsAndRights) {
        StemDots x = stems(leftsAndRights);
        x.rule(1, stemWeight);
        x.rule(2, gapWeight);
        x.rule(3, mode);
        return x;
    }

    private void fitIs(StemDots x, int size, long distortion, int... dots) {
        due("distortion at " + size, x.distortion(size), distortion);
        for (int s = 0; s < dots.length; s++) {
            due("stem " + s + " at " + size, x.fit(size, s), dots[s]);
        }
        due("why at " + size, x.why(size, 0), 0);
        due("which at " + size, x.why(size, 1), NONE);
    }

    private void noFit(StemDots x, int size, int why, int which) {
        due("why at " + size, x.why(size, 0), why);
        due("which at " + size, x.why(size, 1), which);
        due("distortion at " + size, x.distortion(size), STATE);
        for (int s = 0; s < x.count(2); s++) {
            due("stem " + s + " at " + size, x.fit(size, s), STATE);
        }
        due("place at " + size, x.place(size, 0), GONE + STATE);
    }

    private void sizesAtTheirEnds() {
        about = "SIZE is 1 to 60";
        StemDots x = stems(500, 501);
        for (int size : NO_SIZES) {
            due("fit at " + size, x.fit(size, 0), OUTSIDE);
            due("distortion at " + size, x.distortion(size), OUTSIDE);
            due("why at " + size, x.why(size, 0), OUTSIDE);
            due("which at " + size, x.why(size, 1), OUTSIDE);
        }
        // Twice the middle is 1000 for 1001; 3000 for 2002; 59000 for 59059; 61000 for 60060.
        fitIs(x, 1, 1, 0);
        fitIs(x, 2, 998, 1);
        fitIs(x, 59, 59, 29);
        fitIs(x, 60, 940, 30);
    }

    private void fromDotZeroOn() {
        about = "on a DOT (from 0 on)";
        fitIs(stems(0, 1), 60, 940, 0);
        fitIs(bold(3, 0, 1), 60, 3940, 0);
        fitIs(bold(3, 0, 300), 60, 3000, 0);
        fitIs(stems(0, 1, 2, 3), 60, 940 + 4700 + 1880, 0, 2);
    }

    private void noFartherThanSize() {
        about = "each one with its DOTS ends no farther than SIZE";
        fitIs(stems(998, 999), 1, 997, 0);
        fitIs(stems(998, 999), 60, 820, 59);
        noFit(bold(3, 998, 999), 3, 1, 0);
        fitIs(bold(3, 998, 999), 4, 3988, 0);
        fitIs(bold(3, 998, 999), 5, 9985 - 6000, 1);
        fitIs(bold(3, 998, 999), 60, 119820 - 116000, 56);
        fitIs(bold(3, 699, 999), 60, 101880 - 99000, 39);
    }

    private void aDotBehindItsEnd() {
        about = "the next one lies at least a DOT behind its end";
        // Six dots each; the second would like to lie on dot 12, where the first ends, but for 60 off.
        fitIs(stems(100, 200, 201, 300), 60, 1940 + 1880, 6, 13);
        noFit(stems(100, 101, 500, 501), 2, 2, 1);
        fitIs(stems(100, 101, 500, 501), 3, 397 + 1997 + 2 * 197, 0, 2);
        about = "in their order, with a DOT between them";
        // Each alone would lie on dot 0.
        fitIs(stems(0, 1, 2, 3, 4, 5), 5, 995 + 4975 + 8955 + 2 * 995 * 2, 0, 2, 4);
    }

    private void eightStems() {
        about = "eight of four DOTS need 39";
        StemDots x = bold(3, 0, 1, 100, 101, 200, 201, 300, 301, 400, 401, 500, 501, 600, 601, 700, 701);
        noFit(x, 38, 2, 7);
        due("there is one at 39", x.why(39, 0), 0);
        for (int s = 0; s < 8; s++) {
            due("the only place at 39", x.fit(39, s), 5 * s);
        }
        due("best up to 38", x.best(38), NONE);
        due("best up to 39", x.best(39), 39);
        about = "eight of one DOT need 15";
        x.rule(4, 0);
        noFit(x, 14, 2, 7);
        for (int s = 0; s < 8; s++) {
            due("the only place at 15", x.fit(15, s), 2 * s);
        }
        due("all at 60", x.fit(60, 7), 42);
    }

    private void driftOfAStem() {
        about = "how far twice its LEFT DOT, and its DOTS, times 1000, are from LEFT and RIGHT, added, times SIZE";
        fitIs(stems(450, 550), 10, 1000, 4);
        fitIs(stems(400, 500), 10, 0, 4);
        fitIs(stems(401, 501), 10, 20, 4);
        fitIs(stems(399, 499), 10, 20, 4);
        fitIs(stems(449, 549), 10, 980, 4);
        fitIs(stems(451, 551), 10, 980, 5);
        fitIs(bold(1, 400, 500), 10, 1000, 3);
    }

    private void driftOfAGap() {
        about = "twice how far the DOTS between them, times 1000, are from how far LEFT is from RIGHT there, times SIZE";
        fitIs(ruled(0, 1, 0, 0, 100, 200, 300), 10, 0, 0, 2);
        fitIs(ruled(0, 1, 0, 0, 100, 201, 301), 10, 20, 0, 2);
        fitIs(ruled(0, 1, 0, 0, 100, 249, 349), 10, 980, 0, 2);
        fitIs(ruled(0, 1, 0, 0, 100, 251, 351), 10, 980, 0, 3);
        fitIs(ruled(0, 1, 0, 0, 100, 101, 201), 10, 1980, 0, 2);
        fitIs(ruled(0, 1, 0, 0, 100, 899, 999), 10, 20, 0, 9);
        fitIs(ruled(0, 9, 0, 0, 1, 998, 999), 60, 9 * 2 * (59820 - 58000), 0, 59);
    }

    private void squaresAreCut() {
        about = "its square by 1000 (cut); times the WEIGHT";
        // At size 1 twice the middle is 1000: 31 off for 969, 32 for 968.
        for (int mode = 1; mode <= 3; mode += 2) {
            fitIs(ruled(1, 1, mode, 484, 485), 1, 0, 0);
            fitIs(ruled(9, 1, mode, 484, 485), 1, 0, 0);
            fitIs(ruled(1, 1, mode, 483, 485), 1, 1, 0);
            fitIs(ruled(9, 1, mode, 483, 485), 1, 9, 0);
            fitIs(ruled(0, 1, mode, 483, 485), 1, 0, 0);
        }
        for (int mode = 0; mode <= 2; mode += 2) {
            fitIs(ruled(1, 1, mode, 484, 485), 1, 31, 0);
            fitIs(ruled(9, 1, mode, 484, 485), 1, 279, 0);
            fitIs(ruled(0, 1, mode, 484, 485), 1, 0, 0);
        }
        about = "squares of great DRIFTS";
        // 984 off dot 0 (968.2); 1000 off dots 0 and 1; 996 off dot 1 (992.0).
        fitIs(ruled(1, 1, 1, 200, 296), 4, 968, 0);
        fitIs(ruled(1, 1, 1, 200, 300), 4, 1000, 0);
        fitIs(ruled(1, 1, 1, 200, 301), 4, 992, 1);
    }

    private void squaresOfGapsAreCut() {
        about = "the square of a GAP by 1000 (cut); times its WEIGHT";
        // Twice 15 off, by 985; twice 16 off, by 984.
        for (int mode = 1; mode <= 3; mode += 2) {
            fitIs(ruled(0, 1, mode, 0, 10, 207, 217), 5, 0, 0, 2);
            fitIs(ruled(0, 9, mode, 0, 10, 207, 217), 5, 0, 0, 2);
            fitIs(ruled(0, 1, mode, 0, 10, 256, 266), 4, 1, 0, 2);
            fitIs(ruled(0, 9, mode, 0, 10, 256, 266), 4, 9, 0, 2);
            fitIs(ruled(0, 0, mode, 0, 10, 256, 266), 4, 0, 0, 2);
        }
    }

    private void weightsAtTheirEnds() {
        about = "WEIGHTS 0 to 9";
        // Stems 200 and 100 off, the gap twice 200.
        long[][] rows = {{0, 0, 0}, {1, 0, 300}, {9, 0, 2700}};
        for (long[] row : rows) {
            due("stems by " + row[0], ruled((int) row[0], 0, 0, 100, 180, 300, 390).distortion(10), row[2]);
        }
        due("gaps by 9", ruled(9, 9, 0, 100, 180, 300, 390).distortion(10), 9 * 700);
        fitIs(ruled(0, 0, 0, 100, 180, 300, 390), 10, 0, 0, 2);
        fitIs(ruled(0, 0, 1, 100, 180, 300, 390), 10, 0, 0, 2);
        fitIs(ruled(0, 0, 2, 100, 180, 300, 390), 10, 0, 0, 2);
        fitIs(ruled(0, 0, 3, 100, 180, 300, 390), 10, 0, 0, 2);
    }

    private void addedOrTheGreatest() {
        about = "by 0, 1 all are added, by 2, 3 the greatest is taken";
        long[] distortions = {700, 40 + 10 + 160, 400, 160};
        for (int mode = 0; mode <= 3; mode++) {
            fitIs(ruled(1, 1, mode, 100, 180, 300, 390), 10, distortions[mode], 1, 3);
        }
        long[] byStems = {9 * 300 + 400, 9 * 50 + 160, 1800, 360};
        for (int mode = 0; mode <= 3; mode++) {
            fitIs(ruled(9, 1, mode, 100, 180, 300, 390), 10, byStems[mode], 1, 3);
        }
        about = "the greatest may be the last STEM";
        fitIs(ruled(1, 0, 2, 100, 200, 310, 410), 10, 200, 1, 3);
        about = "the greatest may be the first STEM";
        fitIs(ruled(1, 0, 2, 110, 210, 300, 400), 10, 200, 1, 3);
    }

    private void asLittle() {
        about = "of as little that whose first STEM lies on the least DOT";
        fitIs(stems(150, 250), 5, 1000, 0);
        fitIs(stems(151, 250), 5, 995, 1);
        fitIs(stems(150, 249), 5, 995, 0);
        about = "then the second";
        fitIs(ruled(0, 1, 0, 0, 100, 250, 350), 10, 1000, 0, 2);
        about = "then the third";
        fitIs(ruled(0, 1, 0, 0, 100, 200, 300, 450, 550), 10, 1000, 0, 2, 4);
        about = "the third no farther to the left than the least allows";
        // The first gap is 500 off by one dot; the second 400 off by three dots, 600 off by two.
        fitIs(ruled(0, 1, 0, 0, 100, 250, 350, 610, 710), 10, 1000 + 800, 0, 2, 6);
        fitIs(ruled(0, 1, 1, 0, 100, 250, 350, 610, 710), 10, 1000 + 640, 0, 2, 6);
        fitIs(ruled(0, 1, 2, 0, 100, 250, 350, 610, 710), 10, 1000, 0, 2, 6);
        // The second one is 500 off too, by two dots and by three.
        fitIs(ruled(0, 1, 2, 0, 100, 250, 350, 600, 700), 10, 1000, 0, 2, 5);
        about = "where there is no room for both, the first gives way to the left";
        // They would lie on 3 and on 4, but for the dot between them: 2000 off, whichever gives way.
        fitIs(ruled(1, 0, 0, 300, 400, 401, 499), 10, 2000, 2, 4);
        about = "as little for the first alone";
        fitIs(ruled(1, 0, 0, 350, 450, 800, 900), 10, 1000, 3, 8);
    }

    private void asLittleByTheWorst() {
        about = "by the worst one, each that is not the worst lies as far to the left as it may";
        // The first is 1000 off on dots 1 and 2; the second not at all on dot 7, and 2000 on dot 6.
        fitIs(ruled(1, 0, 2, 150, 250, 700, 800), 10, 1000, 1, 7);
        // Both are 1000 off, on 1 and 2, on 7 and 8.
        fitIs(ruled(1, 0, 2, 150, 250, 750, 850), 10, 1000, 1, 7);
        // One of the first two is 2000 off; so may the third be, that is not off on dot 8.
        fitIs(ruled(1, 0, 2, 300, 400, 401, 499, 800, 900), 10, 2000, 2, 4, 7);
        fitIs(ruled(1, 0, 0, 300, 400, 401, 499, 800, 900), 10, 2000, 2, 4, 8);
        fitIs(ruled(1, 0, 3, 300, 400, 401, 499, 800, 900), 10, 4000, 2, 4, 7);
        fitIs(ruled(1, 0, 1, 300, 400, 401, 499, 800, 900), 10, 4000, 2, 4, 8);
        // On dot 7 it would be 2010 off: farther than the worst one has to be.
        fitIs(ruled(1, 0, 2, 300, 400, 401, 499, 801, 900), 10, 2000, 2, 4, 8);
        fitIs(ruled(1, 0, 2, 700, 800), 10, 0, 7);
    }

    private void withoutAStem() {
        about = "DISTORTION 0: there is no STEM";
        for (StemDots x : new StemDots[] {new StemDots(), letter("u10,0-7"), letter("u10,0-7", "d900,0-7")}) {
            for (int size : new int[] {1, 2, 30, 59, 60}) {
                fitIs(x, size, 0);
                due("best up to " + size, x.best(size), size);
                due("fit at " + size, x.fit(size, 0), UNKNOWN);
            }
            for (int size : NO_SIZES) {
                due("distortion at " + size, x.distortion(size), OUTSIDE);
                due("why at " + size, x.why(size, 0), OUTSIDE);
                due("best up to " + size, x.best(size), OUTSIDE);
                due("fit at " + size, x.fit(size, 0), UNKNOWN);
            }
        }
    }

    private void everySizeFollows() {
        about = "at every SIZE, after each change";
        StemDots none = new StemDots();
        StemDots bold = bold(3, 100, 180);
        StemDots asked = stems(100, 180);
        for (int size = 1; size <= 60; size++) {
            due("one stem's, at " + size, asked.distortion(size), Math.abs(280 * size - middle(asked, size)));
        }
        StemDots x = stems(100, 180);
        x.image(0);
        sameFits(x, asked);
        x.rule(4, 3);
        sameFits(x, bold);
        x.erase(1);
        sameFits(x, none);
        x.restore(0);
        sameFits(x, asked);
        x.erase(0);
        x.erase(0);
        put(x, "u500,0-7");
        x.edge();
        sameFits(x, none);
        put(x, "d590,0-7");
        x.edge();
        sameFits(x, stems(500, 590));
    }

    private static int middle(StemDots x, int size) {
        return 1000 * (2 * x.fit(size, 0) + x.dots(0, size));
    }

    private void sameFits(StemDots x, StemDots other) {
        for (int size = 1; size <= 60; size++) {
            due("distortion at " + size, x.distortion(size), other.distortion(size));
        }
        due("why at 1", x.why(1, 0), other.why(1, 0));
        due("fit at 1", x.fit(1, 0), other.fit(1, 0));
        due("fit at 60", x.fit(60, 0), other.fit(60, 0));
        due("place at 1", x.place(1, 0), other.place(1, 0));
        due("place at 60", x.place(60, 999), other.place(60, 999));
    }

    private void noPlaceIsLeft() {
        about = "the first STEM for which no place is left, if all before it lie as far to the left as can be";
        StemDots x = bold(3, 0, 1, 100, 101, 200, 201, 300, 301, 400, 401, 500, 501, 600, 601, 700, 701);
        for (int size = 1; size <= 38; size++) {
            int which = size < 4 ? 0 : (size + 1) / 5;
            due("which at " + size, x.why(size, 1), which);
            due("why at " + size, x.why(size, 0), size < 4 ? 1 : 2);
        }
        due("none at 39", x.why(39, 1), NONE);
        about = "though it would lie far to the right";
        noFit(stems(998, 999, 900, 901), 2, 2, 1);
        noFit(stems(0, 300, 699, 999), 2, 2, 1);
        fitIs(stems(0, 300, 699, 999), 3, 100 + 2 * 197 + 94, 0, 2);
    }

    private void tooWideOrCrowded() {
        about = "TOO WIDE, if its DOTS are more than SIZE, else CROWDED";
        for (int bold = 1; bold <= 3; bold++) {
            StemDots x = bold(bold, 100, 101, 500, 501);
            noFit(x, bold, 1, 0);
            noFit(x, bold + 1, 2, 1);
            noFit(x, 2 * bold + 2, 2, 1);
            due("there is one", x.why(2 * bold + 3, 0), 0);
        }
        noFit(stems(100, 101, 500, 501), 1, 2, 1);
        noFit(bold(3, 0, 300), 3, 1, 0);
        fitIs(bold(3, 0, 300), 4, 4000 - 1200, 0);
        fitIs(bold(3, 0, 300), 5, 5000 - 1500, 0);
        about = "why follows the RULES at once";
        StemDots x = bold(3, 100, 101);
        noFit(x, 3, 1, 0);
        x.rule(4, 2);
        fitIs(x, 3, 3000 - 603, 0);
    }

    private void whatAtItsEnds() {
        about = "why: 0 and 1";
        StemDots x = stems(100, 180, 300, 390);
        for (int size : new int[] {1, 2, 3, 60}) {
            for (int what : new int[] {Integer.MIN_VALUE, -1, 2, 3, Integer.MAX_VALUE}) {
                due("why " + size + " " + what, x.why(size, what), OUTSIDE);
            }
        }
        due("both outside", x.why(0, 2), OUTSIDE);
        due("both outside", x.why(61, -1), OUTSIDE);
    }

    private void bestUpToMost() {
        about = "of all SIZES 1 to most that have a FIT; NONE";
        StemDots x = stems(100, 180);
        for (int most : NO_SIZES) {
            due("best up to " + most, x.best(most), OUTSIDE);
        }
        due("1", x.best(1), 1);
        due("60", x.best(60), 50);
        // 50 by the size: 1000 at 20, 3000 at 60, not off.
        due("most is one of them", stems(24, 26).best(60), 60);
        due("behind most is none", stems(24, 26).best(59), 20);
        x = bold(3, 100, 180);
        for (int most = 1; most <= 3; most++) {
            due("none up to " + most, x.best(most), NONE);
        }
        due("4", x.best(4), 4);
        about = "the greater of as little";
        x = ruled(0, 0, 0, 100, 180);
        for (int most = 1; most <= 60; most++) {
            due("all are 0, up to " + most, x.best(most), most);
        }
    }

    private void bestExactly() {
        about = "DISTORTION by SIZE (exactly, not cut)";
        // 225 by the size: 100 by 4 is as little as 125 by 5.
        due("100 by 4, 125 by 5", stems(112, 113).best(5), 5);
        // 290 by the size: 10 by 31, 20 by 38.
        due("10 by 31, 20 by 38", stems(100, 190).best(38), 31);
        // 199 by the size: 5 by 5; those beside it are 204 by 4 and 194 by 6.
        due("5 by 5", stems(99, 100).best(9), 5);
        about = "by SIZE, not as it is";
        // 970 by the size: 30 by 1 (for 1000), 940 by 2, 90 by 3 (for 3000).
        due("30 by 1 is as little as 90 by 3", stems(450, 520).best(3), 3);
        due("as it is it is less", stems(450, 520).distortion(1), 30);
        due("as it is it is more", stems(450, 520).distortion(3), 90);
    }

    private void bestOfGreatOnes() {
        about = "DISTORTION by SIZE of eight STEMS by squares";
        StemDots x = ruled(9, 0, 1, 0, 1, 2, 3, 4, 5, 6, 7, 8, 9, 10, 11, 12, 13, 14, 15);
        x.rule(4, 3);
        int best = 39;
        for (int size = 39; size <= 60; size++) {
            long here = pressedToTheLeft(size);
            due("distortion at " + size, x.distortion(size), here);
            if (here * best <= pressedToTheLeft(best) * size) {
                best = size;
            }
            due("best up to " + size, x.best(size), best);
        }
    }

    /** All would lie on dot 0, or farther to the left: they lie as far to the left as can be. */
    private static long pressedToTheLeft(int size) {
        long all = 0;
        for (int s = 0; s < 8; s++) {
            long drift = (2 * 5 * s + 4) * 1000 - (4 * s + 1) * size;
            all += 9 * (drift * drift / 1000);
        }
        return all;
    }
}
