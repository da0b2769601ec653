/** Term 2 and DOTS, promises 9 to 12: each sentence that names a boundary, by the numbers on both sides of it. */
public final class StemBoundsTest extends Cases {
    public static void main(String[] args) {
        StemBoundsTest t = new StemBoundsTest();
        t.lesserX();
        t.threeHundredAtTheMost();
        t.heightInCommon();
        t.narrowest();
        t.asNarrow();
        t.notOverIt();
        t.andSoOn();
        t.byTheirLefts();
        t.noStem();
        t.tolerance();
        t.widerThanTheFirstOne();
        t.standardIsCut();
        t.eightClasses();
        t.noClass();
        t.toTheNearest();
        t.oneAtTheLeastAndBold();
        t.sizesAtTheirEnds();
        t.leastSize();
        t.dotsAtTheirEnds();
        t.check.end("StemBoundsTest");
    }

    private void stemsAre(StemDots x, int... leftsAndRights) {
        due("stems", x.count(2), leftsAndRights.length / 2);
        for (int s = 0; s < leftsAndRights.length / 2; s++) {
            due("left of " + s, x.stem(s, 0), leftsAndRights[2 * s]);
            due("right of " + s, x.stem(s, 1), leftsAndRights[2 * s + 1]);
        }
        due("no more", x.stem(leftsAndRights.length / 2, 0), UNKNOWN);
    }

    private void lesserX() {
        about = "one goes UP at a lesser X than the other one that goes DOWN";
        stemsAre(stems(500, 501), 500, 501);
        stemsAre(stems(500, 500));
        stemsAre(stems(500, 499));
        stemsAre(stems(0, 1), 0, 1);
        stemsAre(stems(0, 0));
        stemsAre(stems(998, 999), 998, 999);
        stemsAre(stems(999, 999));
        stemsAre(letter("u10,0-9", "u20,0-9"));
        stemsAre(letter("d10,0-9", "d20,0-9"));
        stemsAre(letter("d10,0-9", "u20,0-9"));
    }

    private void threeHundredAtTheMost() {
        about = "by 300 at the most";
        stemsAre(stems(0, 299), 0, 299);
        stemsAre(stems(0, 300), 0, 300);
        stemsAre(stems(0, 301));
        stemsAre(stems(699, 999), 699, 999);
        stemsAre(stems(698, 999));
        stemsAre(stems(0, 999));
        stemsAre(letter("u0,0-7", "u1,0-7", "d301,0-7"), 1, 301);
    }

    private void heightInCommon() {
        about = "some height in common";
        due("by one, above", letter("u10,0-400", "d90,399-999").count(2), 1);
        due("by none, above", letter("u10,0-400", "d90,400-999").count(2), 0);
        due("one apart, above", letter("u10,0-400", "d90,401-999").count(2), 0);
        due("by one, below", letter("u10,399-999", "d90,0-400").count(2), 1);
        due("by none, below", letter("u10,400-999", "d90,0-400").count(2), 0);
        due("one apart, below", letter("u10,401-999", "d90,0-400").count(2), 0);
        due("the least at the foot", letter("u10,0-1", "d90,0-999").count(2), 1);
        due("the least at the head", letter("u10,0-999", "d90,998-999").count(2), 1);
        due("beside the foot", letter("u10,0-1", "d90,1-999").count(2), 0);
        due("beside the head", letter("u10,0-998", "d90,998-999").count(2), 0);
        due("alike", letter("u10,5-6", "d90,5-6").count(2), 1);
        about = "a narrower pair that has no height in common is none";
        stemsAre(letter("u10,0-300", "d20,300-600", "d90,299-600"), 10, 90);
    }

    private void narrowest() {
        about = "of all that can, the narrowest";
        stemsAre(letter("u100,0-7", "d200,0-7", "d199,0-7"), 100, 199);
        stemsAre(letter("u100,0-7", "d200,0-7", "u101,0-7"), 101, 200);
        stemsAre(letter("u100,0-7", "d400,0-7", "u200,0-7", "d300,0-7"), 200, 300);
        about = "the wider of two that lie over one another is none, though it came first";
        stemsAre(letter("u100,0-300", "d160,0-300", "u150,400-700", "d209,400-700"), 150, 209);
        stemsAre(letter("u100,0-300", "d158,0-300", "u150,400-700", "d209,400-700"), 100, 158);
    }

    private void asNarrow() {
        about = "of as narrow that of the least X";
        stemsAre(letter("u150,400-700", "d210,400-700", "u100,0-300", "d160,0-300"), 100, 160);
        stemsAre(letter("u100,0-300", "d160,0-300", "u150,400-700", "d210,400-700"), 100, 160);
        about = "then of the least number of the one that goes UP";
        StemDots x = letter("u20,0-400", "u20,300-700", "d80,300-400");
        stemIs(x, 0, 20, 80, 0, 2, 0);
        x = letter("u20,600-700", "d80,0-500", "u20,300-700", "u20,0-400");
        stemIs(x, 0, 20, 80, 2, 1, 0);
        // The pair of edges 1 and 2 has the lesser number that goes DOWN.
        x = letter("u20,500-600", "u20,0-400", "d80,0-300", "d80,450-600");
        stemIs(x, 0, 20, 80, 0, 3, 0);
        about = "then DOWN";
        x = letter("u20,0-700", "d80,0-700", "d80,0-700");
        stemIs(x, 0, 20, 80, 0, 1, 0);
        x = letter("d80,0-700", "d80,0-700", "u20,0-700");
        stemIs(x, 0, 20, 80, 2, 0, 0);
    }

    private void notOverIt() {
        about = "the one's RIGHT is less than the other one's LEFT";
        stemsAre(stems(200, 290, 100, 198), 100, 198, 200, 290);
        stemsAre(stems(200, 290, 100, 199), 100, 199, 200, 290);
        stemsAre(stems(200, 290, 100, 200), 200, 290);
        stemsAre(letter("u200,0-300", "d290,0-300", "u100,400-700", "d201,400-700"), 200, 290);
        stemsAre(stems(200, 290, 292, 400), 200, 290, 292, 400);
        stemsAre(stems(200, 290, 291, 400), 200, 290, 291, 400);
        stemsAre(stems(200, 290, 290, 400), 200, 290);
        stemsAre(letter("u200,0-300", "d290,0-300", "u289,400-700", "d400,400-700"), 200, 290);
        stemsAre(letter("u200,0-300", "d290,0-300", "u199,400-700", "d291,400-700"), 200, 290);
        about = "none of its EDGES";
        StemDots x = letter("u100,0-7", "d150,0-7", "d260,0-7");
        due("one", x.count(2), 1);
        due("an edge without a stem", x.told(2, 4), NONE);
    }

    private void andSoOn() {
        about = "and so on: none lies over any that is one already";
        stemsAre(stems(100, 110, 300, 320, 320, 350), 100, 110, 300, 320);
        stemsAre(stems(100, 110, 300, 320, 321, 351), 100, 110, 300, 320, 321, 351);
        about = "one that lies over one that is none may be one";
        stemsAre(letter("u100,0-99", "d140,0-99", "u140,100-199", "d190,100-199", "u190,200-299", "d250,200-299"),
            100, 140, 190, 250);
    }

    private void byTheirLefts() {
        about = "numbered by their LEFTS";
        StemDots x = stems(990, 999, 0, 9, 500, 501);
        stemIs(x, 0, 0, 9, 2, 3, 0);
        stemIs(x, 1, 500, 501, 4, 5, 0);
        stemIs(x, 2, 990, 999, 0, 1, 0);
        about = "eight of sixteen EDGES, one beside the other";
        x = stems(14, 15, 12, 13, 10, 11, 8, 9, 6, 7, 4, 5, 2, 3, 0, 1);
        due("stems", x.count(2), 8);
        for (int s = 0; s < 8; s++) {
            stemIs(x, s, 2 * s, 2 * s + 1, 14 - 2 * s, 15 - 2 * s, 0);
            due("stem of its up", x.told(14 - 2 * s, 4), s);
            due("stem of its down", x.told(15 - 2 * s, 4), s);
        }
        due("no ninth", x.stem(8, 0), UNKNOWN);
        due("one goes", x.erase(15), 15);
        due("seven", x.count(2), 7);
        due("no eighth", x.stem(7, 0), UNKNOWN);
    }

    private void noStem() {
        about = "there is no such STEM";
        StemDots x = stems(100, 180, 300, 390);
        for (int stem : new int[] {Integer.MIN_VALUE, -6, -1, 2, 3, 7, 8, 9, Integer.MAX_VALUE}) {
            for (int what = -1; what <= 5; what++) {
                due("stem " + stem + " " + what, x.stem(stem, what), UNKNOWN);
            }
            for (int size : new int[] {0, 1, 10, 60, 61}) {
                due("fit " + size + " " + stem, x.fit(size, stem), UNKNOWN);
            }
        }
        for (int what : new int[] {Integer.MIN_VALUE, -1, 5, 6, Integer.MAX_VALUE}) {
            due("what " + what, x.stem(0, what), OUTSIDE);
            due("what " + what, x.stem(1, what), OUTSIDE);
        }
    }

    private void tolerance() {
        about = "wider by no more than the TOLERANCE";
        int[][] rows = {{20, 100, 119, 1}, {20, 100, 120, 1}, {20, 100, 121, 2}, {0, 100, 100, 1}, {0, 100, 101, 2},
            {1, 100, 101, 1}, {1, 100, 102, 2}, {99, 100, 199, 1}, {99, 100, 200, 2}, {99, 1, 100, 1}, {99, 1, 101, 2},
            {99, 201, 300, 1}, {99, 200, 300, 2}};
        for (int[] row : rows) {
            StemDots x = stems(0, row[1], 500, 500 + row[2]);
            x.rule(0, row[0]);
            due(row[1] + " and " + row[2] + " by " + row[0], x.count(3), row[3]);
            due("the wider one's class", x.stem(1, 4), row[3] - 1);
            x = stems(0, row[2], 500, 500 + row[1]);
            x.rule(0, row[0]);
            due(row[2] + " and " + row[1] + " by " + row[0], x.count(3), row[3]);
            due("the wider one's class", x.stem(0, 4), row[3] - 1);
        }
    }

    private void widerThanTheFirstOne() {
        about = "than the first one of that; else it begins another one";
        StemDots x = stems(0, 122, 200, 301, 350, 430, 500, 621, 700, 800);
        due("classes", x.count(3), 3);
        kindIs(x, 0, 2, 80, 90);
        kindIs(x, 1, 2, 101, 111);
        kindIs(x, 2, 1, 122, 122);
        int[] classes = {2, 1, 0, 1, 0};
        for (int s = 0; s < classes.length; s++) {
            due("class of " + s, x.stem(s, 4), classes[s]);
        }
        about = "the CLASSES follow the TOLERANCE at once";
        due("it was", x.rule(0, 21), 20);
        due("classes", x.count(3), 2);
        kindIs(x, 0, 3, 80, 93);
        kindIs(x, 1, 2, 121, 121);
        due("no third", x.kind(2, 0), UNKNOWN);
    }

    private void standardIsCut() {
        about = "widths, added, by how many they are (cut)";
        kindIs(stems(0, 80, 200, 281), 0, 2, 80, 80);
        kindIs(stems(0, 80, 200, 282), 0, 2, 80, 81);
        kindIs(stems(0, 80, 200, 280, 400, 481), 0, 3, 80, 80);
        kindIs(stems(0, 80, 200, 281, 400, 481), 0, 3, 80, 80);
        kindIs(stems(0, 81, 200, 281, 400, 481), 0, 3, 81, 81);
        kindIs(stems(0, 1), 0, 1, 1, 1);
        kindIs(stems(0, 1, 10, 12), 0, 2, 1, 1);
        kindIs(stems(0, 300, 400, 700), 0, 2, 300, 300);
    }

    private void eightClasses() {
        about = "eight STEMS, each of a CLASS of its own";
        int[] leftsAndRights = new int[16];
        for (int s = 0; s < 8; s++) {
            leftsAndRights[2 * s] = 20 * s;
            leftsAndRights[2 * s + 1] = 20 * s + 8 - s;
        }
        StemDots x = stems(leftsAndRights);
        due("within 20", x.count(3), 1);
        kindIs(x, 0, 8, 1, 4);
        x.rule(0, 0);
        due("within 0", x.count(3), 8);
        for (int k = 0; k < 8; k++) {
            kindIs(x, k, 1, k + 1, k + 1);
            due("class of " + k, x.stem(k, 4), 7 - k);
        }
        due("no ninth", x.kind(8, 0), UNKNOWN);
        due("dots of the last", x.dots(7, 60), 1);
        x.rule(0, 6);
        due("within 6", x.count(3), 2);
        kindIs(x, 0, 7, 1, 4);
        kindIs(x, 1, 1, 8, 8);
    }

    private void noClass() {
        about = "there is no such CLASS";
        StemDots x = stems(0, 100, 200, 280, 400, 485, 600, 705);
        for (int kind : new int[] {Integer.MIN_VALUE, -6, -1, 2, 3, 7, 8, Integer.MAX_VALUE}) {
            for (int n : new int[] {Integer.MIN_VALUE, -1, 0, 1, 2, 3, 60, 61, Integer.MAX_VALUE}) {
                due("kind " + kind + " " + n, x.kind(kind, n), UNKNOWN);
                due("dots " + kind + " " + n, x.dots(kind, n), UNKNOWN);
                due("grows " + kind + " " + n, x.grows(kind, n), UNKNOWN);
            }
        }
        for (int kind = 0; kind < 2; kind++) {
            for (int what : new int[] {Integer.MIN_VALUE, -1, 3, 4, Integer.MAX_VALUE}) {
                due("kind " + kind + " " + what, x.kind(kind, what), OUTSIDE);
            }
        }
        about = "an EDGE that makes no STEM makes no CLASS";
        x = letter("u100,0-7");
        due("classes", x.count(3), 0);
        due("kind", x.kind(0, 0), UNKNOWN);
        due("dots", x.dots(0, 1), UNKNOWN);
        due("grows", x.grows(0, 1), UNKNOWN);
    }

    private static int dotsOf(int width, int size, int bold) {
        StemDots x = stems(100, 100 + width);
        x.rule(4, bold);
        return x.dots(0, size);
    }

    private void toTheNearest() {
        about = "to the nearest (half a one: up)";
        due("1450", dotsOf(50, 29, 0), 1);
        due("1498", dotsOf(107, 14, 0), 1);
        due("1500", dotsOf(50, 30, 0), 2);
        due("1500 of 300", dotsOf(300, 5, 0), 2);
        due("1508", dotsOf(52, 29, 0), 2);
        due("2499", dotsOf(51, 49, 0), 2);
        due("2500", dotsOf(50, 50, 0), 3);
        due("2501", dotsOf(61, 41, 0), 3);
        due("17400", dotsOf(290, 60, 0), 17);
        due("2000", dotsOf(100, 20, 0), 2);
    }

    private void oneAtTheLeastAndBold() {
        about = "1 at the least, and BOLD more";
        for (int bold = 0; bold <= 3; bold++) {
            due("1 of 1000 at 1, bold " + bold, dotsOf(1, 1, bold), 1 + bold);
            due("60 of 1000, bold " + bold, dotsOf(1, 60, bold), 1 + bold);
            due("499 at the most for 1, bold " + bold, dotsOf(83, 6, bold), 1 + bold);
            due("500, bold " + bold, dotsOf(50, 10, bold), 1 + bold);
            due("1500, bold " + bold, dotsOf(50, 30, bold), 2 + bold);
            due("18000, bold " + bold, dotsOf(300, 60, bold), 18 + bold);
        }
    }

    private void sizesAtTheirEnds() {
        about = "SIZE is 1 to 60";
        StemDots x = stems(0, 100, 200, 300, 400, 521);
        int[] most = {6, 7};
        for (int kind = 0; kind < 2; kind++) {
            for (int size : new int[] {Integer.MIN_VALUE, -1, 0, 61, 62, Integer.MAX_VALUE}) {
                due("dots at " + size, x.dots(kind, size), OUTSIDE);
            }
            due("dots at 1", x.dots(kind, 1), 1);
            due("dots at 60", x.dots(kind, 60), most[kind]);
        }
        due("121 at 59: 7139", x.dots(1, 59), 7);
        due("121 at 53: 6413", x.dots(1, 53), 6);
    }

    private void leastSize() {
        about = "the least SIZE at which a CLASS has so many DOTS, or more";
        StemDots x = stems(100, 125);
        due("1 of 25", x.grows(0, 1), 1);
        due("2 of 25: 1500 at 60", x.grows(0, 2), 60);
        due("3 of 25", x.grows(0, 3), NONE);
        x = stems(100, 124);
        due("2 of 24: 1440 at 60", x.grows(0, 2), NONE);
        x = stems(100, 400);
        due("2 of 300", x.grows(0, 2), 5);
        due("18 of 300", x.grows(0, 18), 59);
        due("19 of 300", x.grows(0, 19), NONE);
        about = "or more, and BOLD";
        x.rule(4, 3);
        for (int dots = 1; dots <= 4; dots++) {
            due(dots + " of 300", x.grows(0, dots), 1);
        }
        due("5 of 300", x.grows(0, 5), 5);
        due("21 of 300", x.grows(0, 21), 59);
        due("22 of 300", x.grows(0, 22), NONE);
        x = stems(0, 50, 100, 400);
        due("2 of the first class", x.grows(0, 2), 30);
        due("2 of the second class", x.grows(1, 2), 5);
    }

    private void dotsAtTheirEnds() {
        about = "so many DOTS: 1 to 60";
        StemDots x = stems(100, 400);
        for (int dots : new int[] {Integer.MIN_VALUE, -1, 0, 61, 62, Integer.MAX_VALUE}) {
            due("" + dots, x.grows(0, dots), OUTSIDE);
        }
        due("1", x.grows(0, 1), 1);
        due("59", x.grows(0, 59), NONE);
        due("60", x.grows(0, 60), NONE);
    }
}
