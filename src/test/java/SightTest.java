/** Promises 22 to 28: sights in two times, which carts came, images, and what is told about all. */
public final class SightTest {
    private static final Due DUE = new Due("SightTest");

    /** At post p: c at 10, m at 13, n at 30, behind more than the gap. Bird z sits nowhere. */
    private static final String ROAD = "bird a counts 2 gap 5;bird z counts 1 gap 1;post p at 10 toll 1 a;"
        + "cart c at 0 sacks 1;cart m at 3 sacks 1 maybe;cart n at 20 sacks 1 maybe;";

    private static void came(String when, CrowToll x, int k, int sets, int all, int none) {
        DUE.is(when + ", came(0, " + k + ")", x.came(0, k), sets);
        DUE.is(when + ", came(1, " + k + ")", x.came(1, k), all);
        DUE.is(when + ", came(2, " + k + ")", x.came(2, k), none);
    }

    private static void sight() {
        CrowToll x = Due.on(ROAD);
        int[][] wrong = {{-1, 0, 0}, {721, 0, 0}, {0, -1, 0}, {0, 2, 0}, {0, 0, -1}, {0, 0, 21}};
        for (int[] w : wrong) {
            DUE.is("sight(" + w[0] + ", " + w[1] + ", " + w[2] + ")", x.sight(w[0], w[1], w[2]), -1);
        }
        DUE.is("none told", x.about(5), 0);
        for (int i = 0; i < 30; i++) {
            DUE.is("sight " + i, x.sight(720, 1, i % 21), i);
        }
        DUE.is("the 31st", x.sight(0, 0, 0), -1);
        DUE.is("one untold", x.untell(7), true);
        DUE.is("still 30", x.sight(0, 0, 0), -1);
        DUE.is("about(5)", x.about(5), 30);
    }

    private static void untell() {
        CrowToll x = Due.on(ROAD);
        DUE.is("untell(0) of none", x.untell(0), false);
        x.sight(0, 0, 0);
        DUE.is("untell(1)", x.untell(1), false);
        DUE.is("untell(-1)", x.untell(-1), false);
        DUE.is("untell(0)", x.untell(0), true);
        DUE.is("untell(0) again", x.untell(0), false);
    }

    private static void later() {
        CrowToll x = new CrowToll();
        DUE.is("later(0)", x.later(0), 0);
        DUE.is("later(-1)", x.later(-1), -1);
        DUE.is("later(1001)", x.later(1001), -1);
        for (int i = 1; i < 100; i++) {
            DUE.is("later(1000)", x.later(1000), 1000 * i);
        }
        DUE.is("later(999)", x.later(999), 99999);
        DUE.is("above 100,000", x.later(2), -1);
        DUE.is("100,000", x.later(1), 100000);
        DUE.is("one more", x.later(1), -1);
        DUE.is("none more", x.later(0), 100000);
        DUE.is("about(6)", x.about(6), 100000);
    }

    private static void sets() {
        CrowToll x = Due.on(ROAD);
        came("no sight", x, 0, 4, 0, 0);
        x.sight(12, 0, 1);
        came("before m", x, 0, 4, 0, 0);
        x.sight(9, 0, 0);
        x.sight(0, 1, 0);
        came("before c, and a bird that sits nowhere", x, 0, 4, 0, 0);
        x.sight(13, 0, 2);
        came("m in the minute", x, 0, 2, 2, 0);
        x.sight(30, 0, 1);
        came("n began anew", x, 0, 1, 6, 0);
        x.untell(4);
        x.sight(720, 0, 2);
        came("n did not come", x, 0, 1, 2, 4);
        x.sight(13, 0, 1);
        came("it can't be", x, 0, 0, 0, 0);
        DUE.is("came(3, 0)", x.came(3, 0), -1);
        DUE.is("came(-1, 0)", x.came(-1, 0), -1);
        CrowToll nowhere = Due.on(ROAD);
        nowhere.sight(500, 1, 1);
        came("a bird that sits nowhere counts none", nowhere, 0, 0, 0, 0);
        CrowToll one = Due.on(ROAD);
        one.sight(13, 0, 1);
        came("m did not come", one, 0, 2, 0, 2);
        one.doubt(1);
        one.come(3, 1);
        one.learn(0, -1);
        came("what is so in earnest does not count", one, 0, 2, 0, 2);
    }

    private static void twoTimes() {
        CrowToll x = Due.on(ROAD);
        x.later(5);
        x.sight(13, 0, 2);
        x.later(5);
        x.sight(30, 0, 1);
        x.later(5);
        x.untell(0);
        came("before all", x, 4, 4, 0, 0);
        came("long before all", x, Integer.MIN_VALUE, 4, 0, 0);
        came("one told", x, 5, 2, 2, 0);
        came("one told still", x, 9, 2, 2, 0);
        came("two told", x, 10, 1, 6, 0);
        came("two told still", x, 14, 1, 6, 0);
        // the count behind minute 30 is 1, unless m came alone
        came("the first untold", x, 15, 3, 0, 0);
        came("long behind all", x, Integer.MAX_VALUE, 3, 0, 0);
        x.sight(13, 0, 1);
        x.untell(2);
        came("told and untold at one time", x, 15, 3, 0, 0);
    }

    private static void images() {
        CrowToll x = Due.on(ROAD);
        DUE.is("image(3)", x.image(3), -1);
        DUE.is("image(-1)", x.image(-1), -1);
        DUE.is("back(0) of nothing", x.back(0), -1);
        DUE.is("back(3)", x.back(3), -1);
        DUE.is("back(-1)", x.back(-1), -1);
        x.come(44, 7);
        x.doubt(1);
        x.learn(0, 4);
        DUE.is("image(2)", x.image(2), 4);
        DUE.is("acts stay behind an image", x.about(3), 3);
        x.undo();
        x.undo();
        x.undo();
        x.come(50, 50);
        x.come(51, 51);
        x.doubt(2);
        x.undo();
        DUE.is("image(0)", x.image(0), 5);
        DUE.is("back(2)", x.back(2), 4);
        DUE.is("its cart", x.cart(3, 0), 44);
        DUE.is("its sacks", x.cart(3, 1), 7);
        DUE.is("m comes", x.cart(1, 2), 1);
        DUE.is("m is maybe still", x.cart(1, 3), 1);
        DUE.is("a counts", x.bird(0, 0), 6);
        DUE.is("m is counted", x.counter(1, 0), 0);
        DUE.is("no acts", x.about(3), 0);
        DUE.is("none to redo", x.about(4), 0);
        DUE.is("no undo", x.undo(), false);
        DUE.is("no redo", x.redo(), false);
        DUE.is("gone on from", x.come(1, 1), 4);
        DUE.is("the box has it still", x.back(2), 4);
        DUE.is("back(0)", x.back(0), 5);
        DUE.is("its last cart", x.cart(4, 1), 51);
        DUE.is("m does not come", x.cart(1, 2), 0);
        DUE.is("a as told", x.bird(0, 0), 2);
        DUE.is("back(1) of nothing", x.back(1), -1);
    }

    private static void about() {
        CrowToll x = Due.on(ROAD + "law (sacks);");
        x.come(1, 1);
        x.come(2, 2);
        x.come(3, 3);
        x.undo();
        x.sight(1, 1, 1);
        x.later(9);
        x.feed(0, 0, 0, 0, 0);
        x.seats();
        int[] due = {2, 1, 5, 2, 1, 1, 9, 20, 2, 2};
        for (int i = 0; i < due.length; i++) {
            DUE.is("about(" + i + ")", x.about(i), due[i]);
        }
        DUE.is("about(10)", x.about(10), -1);
        DUE.is("about(-1)", x.about(-1), -1);
    }

    public static void main(String[] args) {
        sight();
        untell();
        later();
        sets();
        twoTimes();
        images();
        about();
        DUE.finish();
    }
}
