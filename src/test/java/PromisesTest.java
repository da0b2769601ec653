/** The promises one by one, by answers worked out by hand from the document. */
public final class PromisesTest extends Cases {
    public static void main(String[] args) {
        PromisesTest t = new PromisesTest();
        t.newObject();
        t.say();
        t.wipe();
        t.fault();
        t.edge();
        t.erase();
        t.told();
        t.rule();
        t.stem();
        t.stemsOfHeights();
        t.stemsChosen();
        t.kind();
        t.dots();
        t.grows();
        t.fit();
        t.fitsAlike();
        t.distortion();
        t.modes();
        t.why();
        t.best();
        t.place();
        t.image();
        t.restore();
        t.restoredAnswers();
        t.count();
        t.check.end("PromisesTest");
    }

    private void newObject() {
        about = "1 new object";
        StemDots x = new StemDots();
        int[] counts = {0, 0, 0, 0, 20, 1, 1, 0, 0};
        for (int what = 0; what < counts.length; what++) {
            due("count " + what, x.count(what), counts[what]);
        }
        due("restore 0", x.restore(0), STATE);
        due("restore 1", x.restore(1), STATE);
    }

    private void say() {
        about = "2 say";
        StemDots x = new StemDots();
        for (int sign : new int[] {32, 127, 0, -1, Integer.MIN_VALUE, Integer.MAX_VALUE}) {
            due("" + sign, x.say(sign), OUTSIDE);
        }
        due("none came", x.count(0), 0);
        due("33", x.say(33), 1);
        due("126", x.say(126), 2);
        for (int n = 3; n <= 30; n++) {
            due("u", x.say('u'), n);
        }
        due("31st", x.say('u'), FULL);
        due("31st, outside", x.say(32), OUTSIDE);
        due("still 30", x.count(0), 30);
    }

    private void wipe() {
        about = "3 wipe";
        StemDots x = letter("u100,0-700");
        due("empty", x.wipe(), 0);
        put(x, "u12,");
        due("four", x.wipe(), 4);
        due("again", x.wipe(), 0);
        due("signs", x.count(0), 0);
        due("edges stay", x.count(1), 1);
        due("from the front again", x.say('d'), 1);
    }

    private void fault() {
        about = "4 fault";
        faults(0, "", "x", "5", ",", "-", "U12,0-7", "xu1,0-7");
        faults(1, "u", "d", "uu1,0-7", "d,", "u-");
        faults(2, "u1", "u1-", "u1u");
        faults(3, "d12", "u1,", "u12-", "u1,,", "u1,-");
        faults(4, "u123", "u1234", "u1234,0-7", "u1,2", "u1,2,");
        faults(5, "u1,2-", "u1,2--", "u1,2-x", "u1,23", "u123,");
        faults(6, "u1,234", "u1,2345", "u1,2-3,", "u1,2-3u", "u1,2-1", "u1,2-2", "u1,2-2,");
        faults(7, "u1,2-11,");
        faults(8, "u1,2-1111", "u1,0-0000", "u1,20-19", "u1,11-10,");
        faults(10, "u999,999-0-");
        faults(12, "u999,999-999", "u000,000-000", "d999,999-998", "u999,000-9999");
        faults(NONE, "u1,2-3", "d1,2-3", "u0,0-1", "u999,998-999", "d001,000-001", "u12,9-10", "d5,6-077");
        about = "4 fault stays a look";
        StemDots x = new StemDots();
        put(x, "u1,2-3");
        due("fault", x.fault(), NONE);
        due("signs", x.count(0), 6);
        due("edge", x.edge(), 1);
    }

    private void faults(int place, String... texts) {
        for (String text : texts) {
            StemDots x = new StemDots();
            put(x, text);
            due("'" + text + "'", x.fault(), place);
            due("edge of '" + text + "'", x.edge(), place == NONE ? 1 : NO);
            due("signs after '" + text + "'", x.count(0), place == NONE ? 0 : text.length());
        }
    }

    private void edge() {
        about = "5 edge";
        StemDots x = new StemDots();
        due("empty pad", x.edge(), NO);
        for (int n = 1; n <= 16; n++) {
            put(x, "u" + n + ",0-7");
            due("comes", x.edge(), n);
            due("pad is empty", x.count(0), 0);
        }
        put(x, "u1,7-7");
        due("fault before full", x.edge(), NO);
        put(x, "u1,0-7");
        due("full", x.edge(), FULL);
        due("pad stays", x.count(0), 6);
        due("16", x.count(1), 16);
        due("one goes", x.erase(3), 15);
        due("and the pad comes", x.edge(), 16);
        due("last", x.told(15, 1), 1);
    }

    private void erase() {
        about = "6 erase";
        StemDots x = letter("u10,1-7", "d20,2-8", "u30,3-9", "d40,4-10");
        due("4", x.erase(4), UNKNOWN);
        due("-1", x.erase(-1), UNKNOWN);
        for (int far : FAR) {
            due("far", x.erase(far), UNKNOWN);
        }
        due("4 stay", x.count(1), 4);
        due("1", x.erase(1), 3);
        edgeIs(x, 0, 1, 10, 1, 7);
        edgeIs(x, 1, 1, 30, 3, 9);
        edgeIs(x, 2, 0, 40, 4, 10);
        due("3 is gone", x.told(3, 1), UNKNOWN);
        due("2", x.erase(2), 2);
        due("0", x.erase(0), 1);
        edgeIs(x, 0, 1, 30, 3, 9);
        due("0", x.erase(0), 0);
        due("none", x.erase(0), UNKNOWN);
        about = "6 erase: the stems follow";
        x = stems(100, 180, 300, 390);
        due("fit before", x.fit(10, 1), 3);
        due("erase", x.erase(0), 3);
        due("one stem", x.count(2), 1);
        due("left", x.stem(0, 0), 300);
        due("up", x.stem(0, 2), 1);
        due("fit", x.fit(10, 0), 3);
        due("no other", x.fit(10, 1), UNKNOWN);
    }

    private void told() {
        about = "7 told";
        StemDots x = letter("d390,10-700", "u0,0-999", "u300,007-08", "d007,00-1");
        edgeIs(x, 0, 0, 390, 10, 700);
        edgeIs(x, 1, 1, 0, 0, 999);
        edgeIs(x, 2, 1, 300, 7, 8);
        edgeIs(x, 3, 0, 7, 0, 1);
        due("stem", x.told(1, 4), 0);
        due("stem", x.told(3, 4), 0);
        due("no stem", x.told(0, 4), NONE);
        due("no stem", x.told(2, 4), NONE);
        due("what 5", x.told(0, 5), OUTSIDE);
        due("what -1", x.told(0, -1), OUTSIDE);
        due("edge 4", x.told(4, 0), UNKNOWN);
        due("edge -1", x.told(-1, 0), UNKNOWN);
        due("both", x.told(4, 9), UNKNOWN);
        for (int far : FAR) {
            due("far", x.told(far, 0), UNKNOWN);
            due("far", x.told(0, far), OUTSIDE);
        }
        x = stems(300, 390, 100, 180);
        due("second stem by its up", x.told(0, 4), 1);
        due("second stem by its down", x.told(1, 4), 1);
        due("first stem by its up", x.told(2, 4), 0);
        due("first stem by its down", x.told(3, 4), 0);
    }

    private void rule() {
        about = "8 rule";
        StemDots x = new StemDots();
        int[] were = {20, 1, 1, 0, 0};
        int[] most = {99, 9, 9, 3, 3};
        for (int what = 0; what < 5; what++) {
            due(what + " too much", x.rule(what, most[what] + 1), OUTSIDE);
            due(what + " too little", x.rule(what, -1), OUTSIDE);
            for (int far : FAR) {
                due(what + " far", x.rule(what, far), OUTSIDE);
                due(far + " far", x.rule(far, 0), OUTSIDE);
            }
            due(what + " stays", x.count(4 + what), were[what]);
            due(what + " most", x.rule(what, most[what]), were[what]);
            due(what + " now", x.count(4 + what), most[what]);
            due(what + " 0", x.rule(what, 0), most[what]);
            due(what + " 0 now", x.count(4 + what), 0);
        }
        due("5", x.rule(5, 0), OUTSIDE);
        due("-1", x.rule(-1, 0), OUTSIDE);
    }

    private void stem() {
        about = "9 stem";
        StemDots x = stems(500, 560, 100, 200);
        stemIs(x, 0, 100, 200, 2, 3, 1);
        stemIs(x, 1, 500, 560, 0, 1, 0);
        due("2", x.stem(2, 0), UNKNOWN);
        due("-1", x.stem(-1, 0), UNKNOWN);
        due("what 5", x.stem(1, 5), OUTSIDE);
        due("what -1", x.stem(1, -1), OUTSIDE);
        due("both", x.stem(2, 5), UNKNOWN);
        for (int far : FAR) {
            due("far", x.stem(far, 0), UNKNOWN);
            due("far", x.stem(0, far), OUTSIDE);
        }
        about = "9 stem: widths";
        due("1", stems(100, 101).count(2), 1);
        due("0", stems(100, 100).count(2), 0);
        due("-1", stems(101, 100).count(2), 0);
        due("300", stems(0, 300).count(2), 1);
        due("301", stems(0, 301).count(2), 0);
        due("down first", letter("d10,0-9", "u90,0-9").count(2), 0);
        due("two up", letter("u10,0-9", "u90,0-9").count(2), 0);
        due("two down", letter("d10,0-9", "d90,0-9").count(2), 0);
    }

    private void stemsOfHeights() {
        about = "9 stem: heights";
        due("touch", letter("u10,0-300", "d90,300-600").count(2), 0);
        due("touch, the other way", letter("u10,300-600", "d90,0-300").count(2), 0);
        due("one in common", letter("u10,0-301", "d90,300-600").count(2), 1);
        due("one in common, the other way", letter("u10,300-600", "d90,0-301").count(2), 1);
        due("one in the other", letter("u10,0-999", "d90,400-500").count(2), 1);
        due("the other in the one", letter("u10,400-500", "d90,0-999").count(2), 1);
        due("apart", letter("u10,0-100", "d90,400-500").count(2), 0);
        StemDots x = letter("u10,0-100", "d50,200-300", "d90,0-100");
        stemIs(x, 0, 10, 90, 0, 2, 0);
    }

    private void stemsChosen() {
        about = "9 stem: the narrowest first";
        StemDots x = letter("u100,0-700", "d300,0-700", "d180,0-700", "u250,0-700");
        due("two", x.count(2), 2);
        stemIs(x, 0, 100, 180, 0, 2, 1);
        stemIs(x, 1, 250, 300, 3, 1, 0);
        x = letter("u200,0-700", "d250,0-700", "u150,0-700");
        stemIs(x, 0, 200, 250, 0, 1, 0);
        about = "9 stem: as narrow, the least X";
        x = letter("u150,0-700", "u100,0-700", "d200,0-700", "d250,0-700", "d150,0-700");
        due("150 to 200 touches it", x.count(2), 1);
        stemIs(x, 0, 100, 150, 1, 4, 0);
        about = "9 stem: as narrow at one X, the least number up, then down";
        x = letter("d80,0-700", "u20,0-700", "d80,0-700", "u20,0-700");
        due("one: the others lie over it", x.count(2), 1);
        stemIs(x, 0, 20, 80, 1, 0, 0);
        due("edge 2 has none", x.told(2, 4), NONE);
        due("edge 3 has none", x.told(3, 4), NONE);
        x = letter("u20,500-600", "u20,0-400", "d80,0-300", "d80,300-600", "d80,400-550");
        stemIs(x, 0, 20, 80, 0, 3, 0);
        about = "9 stem: none over another one";
        x = stems(100, 200, 200, 300);
        due("touching is over", x.count(2), 1);
        stemIs(x, 0, 100, 200, 0, 1, 0);
        x = stems(100, 200, 200, 290);
        due("touching from the left is over", x.count(2), 1);
        stemIs(x, 0, 200, 290, 2, 3, 0);
        x = stems(100, 200, 201, 300);
        due("one apart is not", x.count(2), 2);
        stemIs(x, 0, 100, 200, 0, 1, 0);
        stemIs(x, 1, 201, 300, 2, 3, 0);
        x = letter("u100,0-300", "d400,0-300", "u200,400-700", "d300,400-700");
        due("over it, though apart in height", x.count(2), 1);
        stemIs(x, 0, 200, 300, 2, 3, 0);
        about = "9 stem: eight of them";
        x = stems(900, 910, 800, 810, 700, 710, 600, 610, 500, 510, 400, 410, 300, 310, 200, 210);
        due("eight", x.count(2), 8);
        for (int s = 0; s < 8; s++) {
            stemIs(x, s, 200 + 100 * s, 210 + 100 * s, 14 - 2 * s, 15 - 2 * s, 0);
        }
    }

    private void kind() {
        about = "10 kind";
        StemDots x = stems(0, 100, 200, 280, 400, 485, 600, 705);
        due("two", x.count(3), 2);
        // 80, 85, 100 (20 wider than 80); 105 is 25 wider than the first, though 5 than the one before.
        kindIs(x, 0, 3, 80, 88);
        kindIs(x, 1, 1, 105, 105);
        due("class of 100", x.stem(0, 4), 0);
        due("class of 105", x.stem(3, 4), 1);
        due("2", x.kind(2, 0), UNKNOWN);
        due("-1", x.kind(-1, 0), UNKNOWN);
        due("what 3", x.kind(0, 3), OUTSIDE);
        due("what -1", x.kind(0, -1), OUTSIDE);
        due("both", x.kind(2, 3), UNKNOWN);
        for (int far : FAR) {
            due("far", x.kind(far, 0), UNKNOWN);
            due("far", x.kind(0, far), OUTSIDE);
        }
        about = "10 kind: tolerance";
        x.rule(0, 25);
        due("one", x.count(3), 1);
        kindIs(x, 0, 4, 80, 92);
        x.rule(0, 19);
        due("two", x.count(3), 2);
        kindIs(x, 0, 2, 80, 82);
        kindIs(x, 1, 2, 100, 102);
        x.rule(0, 0);
        due("four", x.count(3), 4);
        kindIs(x, 2, 1, 100, 100);
        due("as wide, tolerance 0", classesOfAlike(), 1);
        due("no stem", new StemDots().kind(0, 0), UNKNOWN);
    }

    private int classesOfAlike() {
        StemDots x = stems(0, 50, 100, 150, 200, 250);
        x.rule(0, 0);
        return x.count(3);
    }

    private void dots() {
        about = "11 dots";
        StemDots x = stems(100, 150);
        int[][] sizesAndDots = {{1, 1}, {9, 1}, {10, 1}, {29, 1}, {30, 2}, {49, 2}, {50, 3}, {60, 3}};
        for (int[] row : sizesAndDots) {
            due("at " + row[0], x.dots(0, row[0]), row[1]);
        }
        due("0", x.dots(0, 0), OUTSIDE);
        due("61", x.dots(0, 61), OUTSIDE);
        due("-1", x.dots(-1, 1), UNKNOWN);
        due("1", x.dots(1, 1), UNKNOWN);
        due("both", x.dots(1, 0), UNKNOWN);
        for (int far : FAR) {
            due("far", x.dots(far, 1), UNKNOWN);
            due("far", x.dots(0, far), OUTSIDE);
        }
        about = "11 dots: bold";
        x.rule(4, 2);
        due("one at the least, and two", x.dots(0, 1), 3);
        due("at 30", x.dots(0, 30), 4);
        due("300 at 60, and three", bold(), 21);
        about = "11 dots: of the standard";
        x = stems(0, 80, 200, 290);
        due("85 at 18: 1530", x.dots(0, 18), 2);
        due("85 at 17: 1445", x.dots(0, 17), 1);
    }

    private int bold() {
        StemDots x = stems(0, 300);
        x.rule(4, 3);
        return x.dots(0, 60);
    }

    private void grows() {
        about = "12 grows";
        StemDots x = stems(100, 150);
        due("1", x.grows(0, 1), 1);
        due("2", x.grows(0, 2), 30);
        due("3", x.grows(0, 3), 50);
        due("4", x.grows(0, 4), NONE);
        due("60", x.grows(0, 60), NONE);
        due("0", x.grows(0, 0), OUTSIDE);
        due("61", x.grows(0, 61), OUTSIDE);
        due("no class", x.grows(1, 1), UNKNOWN);
        due("no class -1", x.grows(-1, 1), UNKNOWN);
        due("both", x.grows(1, 0), UNKNOWN);
        for (int far : FAR) {
            due("far", x.grows(far, 1), UNKNOWN);
            due("far", x.grows(0, far), OUTSIDE);
        }
        x.rule(4, 1);
        due("bold: 2 at once", x.grows(0, 2), 1);
        due("bold: 4", x.grows(0, 4), 50);
        due("18 of 300", stems(0, 300).grows(0, 18), 59);
        due("19 of 300", stems(0, 300).grows(0, 19), NONE);
        due("2 of 25: 1500 at 60, 1475 at 59", stems(0, 25).grows(0, 2), 60);
    }

    private void fit() {
        about = "13 fit";
        StemDots x = stems(100, 180, 300, 390);
        due("no stem 2", x.fit(10, 2), UNKNOWN);
        due("no stem -1", x.fit(10, -1), UNKNOWN);
        due("both", x.fit(0, 2), UNKNOWN);
        due("size 0", x.fit(0, 0), OUTSIDE);
        due("size 61", x.fit(61, 1), OUTSIDE);
        due("size 1", x.fit(1, 0), STATE);
        due("size 2", x.fit(2, 1), STATE);
        for (int far : FAR) {
            due("far", x.fit(10, far), UNKNOWN);
            due("far", x.fit(far, 0), OUTSIDE);
        }
        due("size 3", x.fit(3, 0), 0);
        due("size 3", x.fit(3, 1), 2);
        due("size 10", x.fit(10, 0), 1);
        due("size 10", x.fit(10, 1), 3);
        due("size 60", x.fit(60, 0), 6);
        due("size 60", x.fit(60, 1), 18);
        about = "13 fit: it follows the rules";
        x.rule(4, 3);
        due("size 8", x.fit(8, 0), STATE);
        due("size 9", x.fit(9, 0), 0);
        due("size 9", x.fit(9, 1), 5);
        x.rule(4, 0);
        due("size 10", x.fit(10, 1), 3);
        about = "13 fit: at the letter's end";
        x = stems(900, 999);
        due("size 1", x.fit(1, 0), 0);
        due("size 10", x.fit(10, 0), 9);
        due("size 60", stems(998, 999).fit(60, 0), 59);
        due("no stem, UNKNOWN before all", new StemDots().fit(0, 0), UNKNOWN);
    }

    private void fitsAlike() {
        about = "13 fit: of as little the least dots";
        // Twice the middle is 2000: by one dot it is 1000 on dot 0, and 3000 on dot 1.
        StemDots x = stems(150, 250);
        due("as far to either side", x.fit(5, 0), 0);
        due("distortion", x.distortion(5), 1000);
        x = stems(100, 180, 300, 390);
        x.rule(1, 0);
        due("gaps alone: first on 0", x.fit(10, 0), 0);
        due("gaps alone: then 2", x.fit(10, 1), 2);
        x.rule(2, 0);
        due("nothing counts: 0", x.fit(60, 0), 0);
        due("nothing counts: 6", x.fit(60, 1), 6);
        about = "13 fit: gaps alone, three stems";
        // 1500 are as far from one dot as from two; behind that 2600 are 400 from three dots, 600 from two.
        x = stems(0, 100, 250, 350, 610, 710);
        x.rule(1, 0);
        due("distortion", x.distortion(10), 1000 + 800);
        due("first", x.fit(10, 0), 0);
        due("second", x.fit(10, 1), 2);
        due("third", x.fit(10, 2), 6);
        about = "13 fit: by the worst one, what is not the worst lies as far to the left as it may";
        // Between the first two 20 of 1000: one dot for 200, twice 800, by 2: no way is below 3200. So far
        // the others may drift: twice the first's middle 5000 for 7000 (not 3000); behind the second two dots
        // for 2800 (twice 800, by 2), so that twice the third's middle is 15000 for 17000.
        x = stems(300, 400, 420, 520, 800, 900);
        x.rule(3, 2);
        x.rule(2, 2);
        due("distortion", x.distortion(10), 3200);
        due("first", x.fit(10, 0), 2);
        due("second", x.fit(10, 1), 4);
        due("third", x.fit(10, 2), 7);
    }

    private void distortion() {
        about = "14 distortion";
        StemDots x = new StemDots();
        due("no stem", x.distortion(1), 0);
        due("no stem", x.distortion(60), 0);
        due("no stem, size 0", x.distortion(0), OUTSIDE);
        x = stems(100, 180, 300, 390);
        due("size 0", x.distortion(0), OUTSIDE);
        due("size 61", x.distortion(61), OUTSIDE);
        for (int far : FAR) {
            due("far", x.distortion(far), OUTSIDE);
        }
        due("size 2", x.distortion(2), STATE);
        // Twice the middles 2800 and 6900 to 3000 and 7000, and twice the gap's 1200 to 1000.
        due("size 10", x.distortion(10), 200 + 100 + 400);
        x.rule(1, 9);
        due("weight 9 of stems", x.distortion(10), 9 * 300 + 400);
        x.rule(2, 0);
        due("weight 0 of gaps", x.distortion(10), 9 * 300);
        x.rule(2, 7);
        x.rule(1, 1);
        due("weight 7 of gaps", x.distortion(10), 300 + 7 * 400);
    }

    private void modes() {
        about = "14 distortion: modes";
        StemDots x = stems(100, 180, 300, 390);
        long[] distortions = {700, 210, 400, 160};
        for (int mode = 0; mode < 4; mode++) {
            x.rule(3, mode);
            due("mode " + mode, x.distortion(10), distortions[mode]);
        }
        about = "14 distortion: cut before it is weighed";
        // Twice the middle of 100 to 173 is 2730: 270 from 3000; its square by 1000 is 72.9.
        x = stems(100, 173);
        x.rule(3, 1);
        due("cut", x.distortion(10), 72);
        x.rule(1, 9);
        due("cut, then by 9", x.distortion(10), 9 * 72);
        x.rule(3, 3);
        due("likewise of the worst", x.distortion(10), 9 * 72);
        about = "14 distortion: great squares";
        // At 60 dots the stem at the far right has to lie within: twice its middle 119820 to 119000 by one dot.
        x = stems(998, 999);
        x.rule(3, 1);
        due("820 squared", x.distortion(60), 672);
        x = stems(0, 1, 2, 3, 4, 5, 6, 7, 8, 9, 10, 11, 12, 13, 14, 15);
        x.rule(3, 1);
        x.rule(2, 0);
        x.rule(4, 3);
        x.rule(1, 9);
        due("eight of four dots at 39", x.distortion(39), eightOfFour());
    }

    private long eightOfFour() {
        long all = 0;
        for (int s = 0; s < 8; s++) {
            long drift = (2 * 5 * s + 4) * 1000 - (4 * s + 1) * 39;
            all += 9 * (drift * drift / 1000);
        }
        return all;
    }

    private void why() {
        about = "15 why";
        StemDots x = stems(100, 180, 300, 390);
        due("size 0", x.why(0, 0), OUTSIDE);
        due("size 61", x.why(61, 0), OUTSIDE);
        due("what 2", x.why(5, 2), OUTSIDE);
        due("what -1", x.why(5, -1), OUTSIDE);
        for (int far : FAR) {
            due("far", x.why(far, 0), OUTSIDE);
            due("far", x.why(5, far), OUTSIDE);
        }
        due("there is one", x.why(3, 0), 0);
        due("there is one", x.why(3, 1), NONE);
        due("crowded", x.why(2, 0), 2);
        due("crowded", x.why(2, 1), 1);
        x.rule(4, 2);
        due("too wide", x.why(2, 0), 1);
        due("too wide", x.why(2, 1), 0);
        due("3 dots at 3: the second is crowded", x.why(3, 0), 2);
        due("3 dots at 3", x.why(3, 1), 1);
        due("3 and 3 at 6", x.why(6, 0), 2);
        due("3 and 3 at 7", x.why(7, 0), 0);
        due("no stem", new StemDots().why(1, 0), 0);
        due("no stem", new StemDots().why(1, 1), NONE);
        about = "15 why: the first for which no place is left";
        x = stems(0, 10, 100, 110, 200, 210);
        due("size 4", x.why(4, 1), 2);
        due("size 4", x.why(4, 0), 2);
        due("size 3", x.why(3, 1), 2);
        due("size 2", x.why(2, 1), 1);
        due("size 1", x.why(1, 1), 1);
        due("size 5", x.why(5, 1), NONE);
    }

    private void best() {
        about = "16 best";
        StemDots x = stems(100, 180);
        for (int most : new int[] {0, -1, 61, Integer.MIN_VALUE, Integer.MAX_VALUE}) {
            due("" + most, x.best(most), OUTSIDE);
        }
        due("60", x.best(60), 50);
        due("50", x.best(50), 50);
        due("49", x.best(49), 32);
        due("1", x.best(1), 1);
        // Nothing distorts: of as little the greater.
        x.rule(1, 0);
        due("37", x.best(37), 37);
        due("none fits", stems(100, 180, 300, 390).best(2), NONE);
        due("one fits", stems(100, 180, 300, 390).best(3), 3);
        due("no stem", new StemDots().best(60), 60);
        about = "16 best: by size";
        // Twice the middle is 499 by the size: 501 by 1, 2 by 2, 497 by 3.
        due("the least by size", stems(249, 250).best(3), 2);
        // 225 by the size: 100 by 4 is as little as 125 by 5.
        due("of as little the greater", stems(112, 113).best(5), 5);
        due("up to 4", stems(112, 113).best(4), 4);
        // 290 by the size: 8990 at 31, 10 off; 11020 at 38, 20 off: cut, both would be 0.
        due("not cut", stems(100, 190).best(38), 31);
    }

    private void place() {
        about = "17 place";
        StemDots x = stems(100, 180, 300, 390);
        int[][] xsAndPlaces = {{0, 0}, {99, 990}, {100, 1000}, {101, 1012}, {140, 1500}, {180, 2000}, {181, 2008},
            {240, 2500}, {300, 3000}, {301, 3011}, {350, 3555}, {390, 4000}, {391, 4010}, {999, 10090}};
        for (int[] row : xsAndPlaces) {
            due("at 10, " + row[0], x.place(10, row[0]), row[1]);
        }
        due("before the letter", stems(100, 180).place(1, 0), -100);
        due("before the letter", stems(100, 180).place(1, 99), -1);
        due("size 0", x.place(0, 5), GONE + OUTSIDE);
        due("size 61", x.place(61, 5), GONE + OUTSIDE);
        due("x -1", x.place(10, -1), GONE + OUTSIDE);
        due("x 1000", x.place(10, 1000), GONE + OUTSIDE);
        due("no fit", x.place(2, 5), GONE + STATE);
        due("no fit, x outside", x.place(2, 1000), GONE + OUTSIDE);
        for (int far : FAR) {
            due("far", x.place(far, 5), GONE + OUTSIDE);
            due("far", x.place(10, far), GONE + OUTSIDE);
        }
        due("no stem", new StemDots().place(60, 999), 59940);
        due("no stem", new StemDots().place(1, 0), 0);
        x.rule(4, 1);
        due("bold: the right is farther", x.place(10, 180) - x.place(10, 100), 2000);
    }

    private void image() {
        about = "18 image";
        StemDots x = stems(100, 180);
        for (int n : new int[] {-1, 2, Integer.MIN_VALUE, Integer.MAX_VALUE}) {
            due("" + n, x.image(n), OUTSIDE);
        }
        due("0", x.image(0), 1);
        due("1 is not kept by it", x.restore(1), STATE);
        due("1", x.image(1), 1);
        due("edges stay", x.count(1), 2);
        due("again", x.image(0), 1);
    }

    private void restore() {
        about = "19 restore";
        StemDots x = stems(100, 180);
        due("0", x.restore(0), STATE);
        for (int n : new int[] {-1, 2, Integer.MIN_VALUE, Integer.MAX_VALUE}) {
            due("" + n, x.restore(n), OUTSIDE);
        }
        x.rule(0, 7);
        x.rule(4, 1);
        x.image(1);
        x.erase(0);
        x.rule(0, 9);
        x.rule(1, 2);
        x.rule(2, 3);
        x.rule(3, 3);
        x.rule(4, 3);
        put(x, "d1,");
        x.image(0);
        due("1", x.restore(1), 1);
        due("signs stay", x.count(0), 3);
        int[] counts = {2, 1, 1, 7, 1, 1, 0, 1};
        for (int what = 1; what <= 8; what++) {
            due("count " + what, x.count(what), counts[what - 1]);
        }
        edgeIs(x, 0, 1, 100, 0, 700);
        edgeIs(x, 1, 0, 180, 0, 700);
        due("0", x.restore(0), 1);
        due("one edge", x.count(1), 1);
        due("no stem", x.count(2), 0);
        due("mode", x.count(7), 3);
        edgeIs(x, 0, 0, 180, 0, 700);
        due("1 once more", x.restore(1), 1);
        due("two edges", x.count(1), 2);
    }

    private void restoredAnswers() {
        about = "19 restore: fits follow, images stay as they were kept";
        StemDots x = stems(100, 180);
        x.image(0);
        due("fit", x.fit(10, 0), 1);
        x.erase(0);
        x.erase(0);
        put(x, "u500,0-9");
        x.edge();
        put(x, "d580,0-9");
        x.edge();
        due("fit of another one", x.fit(10, 0), 5);
        x.restore(0);
        due("fit", x.fit(10, 0), 1);
        due("low", x.told(0, 2), 0);
        due("high", x.told(0, 3), 700);
        x.rule(4, 3);
        x.erase(1);
        x.restore(0);
        due("bold", x.count(8), 0);
        due("edges", x.count(1), 2);
        x.image(1);
        x.rule(3, 2);
        x.image(1);
        x.rule(3, 1);
        x.restore(1);
        due("the image kept last", x.count(7), 2);
        due("image of nothing", new StemDots().image(0), 1);
    }

    private void count() {
        about = "20 count";
        StemDots x = stems(0, 100, 200, 280, 400, 485, 600, 705);
        put(x, "u12");
        int[] counts = {3, 8, 4, 2, 20, 1, 1, 0, 0};
        for (int what = 0; what < counts.length; what++) {
            due("" + what, x.count(what), counts[what]);
        }
        due("9", x.count(9), OUTSIDE);
        due("-1", x.count(-1), OUTSIDE);
        for (int far : FAR) {
            due("far", x.count(far), OUTSIDE);
        }
    }
}
