/** Promises 1 and 6 to 15: a new object, the day in earnest, acts taken back and done again. */
public final class DayTest {
    private static final Due DUE = new Due("DayTest");

    /**
     * At post p (10 minutes on) bird b looks first. Cart c at 10: b counts it. d at 11: b takes it for c, not more than 3 ago.
     * e at 14: b can't count on, a counts it. g at 40: more than 9 since b looked at one, it begins anew.
     * Nobody sits at q, and bird z sits nowhere.
     */
    private static final String ROAD = "bird a counts 2 gap 5;bird b counts 1 gap 9 takes 3;bird z counts 4 gap 4;"
        + "post p at 10 toll 5 b a;post q at 20 toll 7;"
        + "cart c at 0 sacks 3;cart d at 1 sacks 8;cart e at 4 sacks 2;cart f at 4 sacks 1 maybe;cart g at 30 sacks 9;";

    private static void newObject() {
        CrowToll x = new CrowToll();
        for (int i = 0; i <= 9; i++) {
            DUE.is("about(" + i + ") of a new object", x.about(i), 0);
        }
        DUE.is("fault(0) of a new object", x.fault(0), 0);
        DUE.is("fault(1) of a new object", x.fault(1), -1);
        DUE.is("income(-1) of a new object", x.income(-1), 0);
        DUE.is("undo() of a new object", x.undo(), false);
        DUE.is("redo() of a new object", x.redo(), false);
        DUE.is("back(0) of a new object", x.back(0), -1);
        DUE.is("lies(0) of a new object", x.lies(0), -1);
        DUE.is("come on an empty road", x.come(600, 99), 0);
        DUE.is("it comes", x.cart(0, 2), 1);
        DUE.is("it is no maybe one", x.cart(0, 3), 0);
    }

    private static void carts() {
        CrowToll x = Due.on(ROAD);
        int[][] due = {{0, 3, 1, 0, 5}, {1, 8, 1, 0, 0}, {4, 2, 1, 0, 5}, {4, 1, 0, 1, 0}, {30, 9, 1, 0, 5}};
        for (int c = 0; c < due.length; c++) {
            for (int w = 0; w < 5; w++) {
                DUE.is("cart(" + c + ", " + w + ")", x.cart(c, w), due[c][w]);
            }
        }
        DUE.is("cart(5, 0)", x.cart(5, 0), -1);
        DUE.is("cart(-1, 0)", x.cart(-1, 0), -1);
        DUE.is("cart(0, 5)", x.cart(0, 5), -1);
        DUE.is("cart(0, -1)", x.cart(0, -1), -1);
        int[] counter = {1, -1, 0, -1, 1};
        int[] pays = {5, 0, 5, 0, 5};
        for (int c = 0; c < 5; c++) {
            DUE.is("counter(" + c + ", 0)", x.counter(c, 0), counter[c]);
            DUE.is("counter(" + c + ", 1)", x.counter(c, 1), -1);
            DUE.is("pays(" + c + ", 0)", x.pays(c, 0), pays[c]);
            DUE.is("pays(" + c + ", 1)", x.pays(c, 1), 0);
        }
        int[][] wrong = {{5, 0}, {-1, 0}, {0, 2}, {0, -1}, {Integer.MAX_VALUE, Integer.MIN_VALUE}};
        for (int[] w : wrong) {
            DUE.is("counter(" + w[0] + ", " + w[1] + ")", x.counter(w[0], w[1]), -2);
            DUE.is("pays(" + w[0] + ", " + w[1] + ")", x.pays(w[0], w[1]), -1);
        }
    }

    private static void birdsAndIncome() {
        CrowToll x = Due.on(ROAD);
        int[][] due = {{2, 0, 1, 1}, {1, 0, 1, 2}, {4, -1, 0, 0}};
        for (int b = 0; b < due.length; b++) {
            for (int w = 0; w < 4; w++) {
                DUE.is("bird(" + b + ", " + w + ")", x.bird(b, w), due[b][w]);
            }
        }
        DUE.is("bird(3, 0)", x.bird(3, 0), -1);
        DUE.is("bird(-1, 0)", x.bird(-1, 0), -1);
        DUE.is("bird(0, 4)", x.bird(0, 4), -1);
        DUE.is("bird(0, -1)", x.bird(0, -1), -1);
        DUE.is("income(0)", x.income(0), 15);
        DUE.is("income(1)", x.income(1), 0);
        DUE.is("income(-1)", x.income(-1), 15);
        DUE.is("income(2)", x.income(2), -2);
        DUE.is("income(-2)", x.income(-2), -2);
    }

    private static String counters(String birds, int... minutes) {
        StringBuilder s = new StringBuilder();
        for (int i = 0; i < minutes.length; i++) {
            s.append("cart ").append((char) ('a' + i)).append(" at ").append(minutes[i]).append(" sacks 1;");
        }
        CrowToll x = Due.on(birds + s);
        StringBuilder out = new StringBuilder();
        for (int i = 0; i < minutes.length; i++) {
            int who = x.counter(i, 0);
            out.append(who == -1 ? "." : String.valueOf(who));
        }
        return out.toString();
    }

    private static void looks(String birds, String due, int... minutes) {
        String got = counters(birds, minutes);
        DUE.is(birds + " counts " + got + ", due is " + due + ":", got.equals(due), true);
    }

    private static void edgesOfLooking() {
        String one = "bird a counts 1 gap 5;post p at 0 toll 1 a;";
        looks(one, "0.", 0, 5);
        looks(one, "00", 0, 6);
        looks(one, "0..", 0, 5, 10);
        looks(one, "0..0", 0, 5, 10, 16);
        String takes = "bird a counts 9 gap 50 takes 3;post p at 0 toll 1 a;";
        looks(takes, "0.0", 0, 3, 4);
        looks(takes, "0..", 0, 2, 3);
        looks(takes, "0..0", 0, 2, 3, 4);
        String same = "bird a counts 9 gap 50;post p at 0 toll 1 a;";
        looks(same, "0.0.", 7, 7, 8, 8);
        looks(same, "00.", 9, 8, 9);
        // the bird begins anew before it would take one for the last it counted
        looks("bird a counts 9 gap 1 takes 9;post p at 0 toll 1 a;", "0.0.", 0, 1, 3, 4);
        // a bird ahead that takes a cart for one keeps it from the next bird; one that can't count on does not
        String two = "bird a counts 1 gap 9 takes 2;bird b counts 1 gap 4;post p at 0 toll 1 a b;";
        looks(two, "0..1", 0, 1, 2, 3);
        looks(two, "01.", 0, 3, 5);
        looks(two, "011", 0, 3, 8);
        // the order at a post is the one told there
        looks("bird a counts 1 gap 9;bird b counts 1 gap 9;post p at 0 toll 1 b a;", "10.", 0, 1, 2);
        // a bird behind does not look at what one ahead counts: its silence goes on
        looks("bird a counts 2 gap 3;bird b counts 1 gap 5;post p at 0 toll 1 a b;", "001001", 0, 1, 2, 6, 8, 9);
    }

    private static void come() {
        CrowToll x = Due.on(ROAD);
        DUE.is("come(601, 1)", x.come(601, 1), -1);
        DUE.is("come(-1, 1)", x.come(-1, 1), -1);
        DUE.is("come(0, 0)", x.come(0, 0), -1);
        DUE.is("come(0, 100)", x.come(0, 100), -1);
        DUE.is("nothing done", x.about(3), 0);
        DUE.is("come(600, 99)", x.come(600, 99), 5);
        DUE.is("it sets out", x.cart(5, 0), 600);
        DUE.is("its sacks", x.cart(5, 1), 99);
        DUE.is("it pays", x.cart(5, 4), 5);
        DUE.is("an act", x.about(3), 1);
        for (int i = 6; i < 24; i++) {
            DUE.is("come " + i, x.come(0, 1), i);
        }
        DUE.is("the 25th", x.come(0, 1), -1);
        DUE.is("24 in all", x.about(2), 24);
        DUE.is("undo", x.undo(), true);
        DUE.is("23 in all", x.about(2), 23);
        DUE.is("cart(23, 0)", x.cart(23, 0), -1);
    }

    private static void doubt() {
        CrowToll x = Due.on(ROAD);
        DUE.is("doubt(0)", x.doubt(0), -1);
        DUE.is("doubt(-1)", x.doubt(-1), -1);
        DUE.is("doubt(5)", x.doubt(5), -1);
        x.come(3, 3);
        DUE.is("doubt of one more", x.doubt(5), -1);
        DUE.is("acts", x.about(3), 1);
        DUE.is("doubt(3)", x.doubt(3), 1);
        DUE.is("it comes", x.cart(3, 2), 1);
        DUE.is("still maybe", x.cart(3, 3), 1);
        DUE.is("doubt(3) again", x.doubt(3), 0);
        DUE.is("it does not come", x.cart(3, 2), 0);
        DUE.is("acts", x.about(3), 3);
    }

    private static void learn() {
        CrowToll x = Due.on(ROAD);
        DUE.is("learn(0, 19)", x.learn(0, 19), -1);
        DUE.is("learn(0, 20)", x.learn(0, 20), -1);
        DUE.is("learn(0, -2)", x.learn(0, -2), -1);
        DUE.is("learn(3, 1)", x.learn(3, 1), -1);
        DUE.is("learn(-1, 1)", x.learn(-1, 1), -1);
        DUE.is("learn(0, least int)", x.learn(0, Integer.MIN_VALUE), -1);
        DUE.is("learn(0, greatest int)", x.learn(0, Integer.MAX_VALUE), -1);
        DUE.is("nothing done", x.about(3), 0);
        DUE.is("learn(0, 18)", x.learn(0, 18), 20);
        DUE.is("bird(0, 0)", x.bird(0, 0), 20);
        DUE.is("learn(0, -19)", x.learn(0, -19), 1);
        DUE.is("learn(0, 19) then", x.learn(0, 19), 20);
        DUE.is("learn(1, 0)", x.learn(1, 0), 1);
        DUE.is("acts", x.about(3), 4);
        DUE.is("b counts two", x.learn(1, 1), 2);
        DUE.is("e is counted by b", x.counter(2, 0), 1);
    }

    private static void undoRedo() {
        CrowToll x = Due.on(ROAD);
        x.come(7, 7);
        x.doubt(3);
        x.learn(2, 5);
        DUE.is("undone 1", x.undo(), true);
        DUE.is("z as told", x.bird(2, 0), 4);
        DUE.is("undone 2", x.undo(), true);
        DUE.is("f does not come", x.cart(3, 2), 0);
        DUE.is("undone 3", x.undo(), true);
        DUE.is("no sixth cart", x.about(2), 5);
        DUE.is("none left", x.undo(), false);
        DUE.is("to redo", x.about(4), 3);
        DUE.is("redone 1", x.redo(), true);
        DUE.is("a sixth cart", x.cart(5, 1), 7);
        DUE.is("redone 2", x.redo(), true);
        DUE.is("f comes", x.cart(3, 2), 1);
        DUE.is("what can't be is no act", x.come(601, 1), -1);
        DUE.is("still to redo", x.about(4), 1);
        DUE.is("another act", x.doubt(3), 0);
        DUE.is("nothing to redo", x.redo(), false);
        DUE.is("three can be undone", x.about(3), 3);
    }

    private static void fortyActs() {
        CrowToll x = Due.on(ROAD);
        x.come(1, 1);
        for (int i = 0; i < 40; i++) {
            x.doubt(3);
        }
        DUE.is("forty are kept", x.about(3), 40);
        int undone = 0;
        while (undone < 99 && x.undo()) {
            undone++;
        }
        DUE.is("forty undone", undone, 40);
        DUE.is("the oldest went: its cart stays", x.about(2), 6);
        DUE.is("forty to redo", x.about(4), 40);
        x.learn(0, 1);
        DUE.is("one act", x.about(3), 1);
        DUE.is("none to redo", x.about(4), 0);
    }

    /** Acts of all sorts: when the oldest have gone, each of the others still takes back what it did. */
    private static void manyActs() {
        CrowToll x = Due.on(ROAD);
        // how many carts, whether f comes, how far a and b count: before each act, and behind the last
        int[][] stood = new int[56][];
        stood[0] = new int[] {5, 0, 2, 1};
        for (int i = 0; i < 55; i++) {
            int[] now = stood[i].clone();
            if (i % 3 == 0 && i < 50) {
                now[0] = x.come(i, i + 1) + 1;
            } else if (i % 3 == 1) {
                now[1] = 1 - now[1];
                DUE.is("doubt", x.doubt(3), now[1]);
            } else {
                int bird = i % 2;
                int by = now[2 + bird] < 9 ? 1 + i % 5 : -7;
                now[2 + bird] += by;
                DUE.is("learn", x.learn(bird, by), now[2 + bird]);
            }
            stood[i + 1] = now;
        }
        for (int i = 54; i >= 15; i--) {
            DUE.is("undo of act " + i, x.undo(), true);
            standsAs("before act " + i, x, stood[i]);
        }
        DUE.is("forty undone", x.undo(), false);
        for (int i = 15; i < 55; i++) {
            DUE.is("redo of act " + i, x.redo(), true);
            standsAs("behind act " + i, x, stood[i + 1]);
        }
        DUE.is("forty redone", x.redo(), false);
    }

    private static void standsAs(String when, CrowToll x, int[] stood) {
        DUE.is("carts " + when, x.about(2), stood[0]);
        DUE.is("f " + when, x.cart(3, 2), stood[1]);
        DUE.is("a " + when, x.bird(0, 0), stood[2]);
        DUE.is("b " + when, x.bird(1, 0), stood[3]);
    }

    /** The farthest post and the highest count. */
    private static void twenty() {
        CrowToll x = Due.on("bird a counts 20 gap 99;post p at 0 toll 1;post q at 0 toll 2;post r at 0 toll 3;post s at 99 toll 4 a;law nth * 10 + toll;");
        for (int i = 0; i < 22; i++) {
            x.come(i, 99 - i);
            DUE.is("the pay of cart " + i, x.pays(i, 3), i < 20 ? 10 * i + 14 : 0);
        }
        DUE.is("twenty counted", x.bird(0, 2), 20);
        DUE.is("income(3)", x.income(3), 2180);
    }

    public static void main(String[] args) {
        newObject();
        carts();
        birdsAndIncome();
        edgesOfLooking();
        come();
        doubt();
        learn();
        undoRedo();
        fortyActs();
        manyActs();
        twenty();
        DUE.finish();
    }
}
