import java.util.ArrayList;
import java.util.List;
import java.util.function.Supplier;
import java.util.function.ToIntFunction;

/** Two objects that are made alike; one of them is asked what it must refuse: behind that nothing may tell them apart. */
final class Twins {
    private Twins() { }

    /**
     * Some of everything: acts done (a cart more, a bird that learned) and taken back, two boxes of three, sights of two times,
     * one untold, numbers that lie there, a tape with a fault at byte 6 that road() has told.
     */
    static CrowToll busy() {
        CrowToll x = Due.on("bird a counts 2 gap 5;bird b counts 1 gap 9 takes 3;bird z counts 4 gap 4;post p at 10 toll 5 b a;"
            + "post q at 20 toll 7;cart c at 0 sacks 3;cart d at 1 sacks 8;cart e at 4 sacks 2;cart f at 4 sacks 1 maybe;"
            + "cart g at 30 sacks 9 maybe;law sacks + nth;");
        x.image(0);
        x.come(12, 5);
        x.learn(0, 1);
        x.doubt(3);
        x.image(2);
        x.doubt(4);
        x.undo();
        x.undo();
        x.later(1);
        x.sight(10, 1, 1);
        x.sight(40, 1, 1);
        x.later(1);
        x.sight(14, 0, 2);
        x.untell(1);
        x.party(2, 5, 0, 3, 1);
        Due.lay(x, "law 7;;");
        x.road();
        return x;
    }

    /** A busy one with so many carts in all; the last of them are acts. */
    static CrowToll with(int carts) {
        CrowToll x = busy();
        for (int i = x.about(2); i < carts; i++) {
            x.come(300 + i, 1);
        }
        return x;
    }

    /** The call answers as due, and does nothing. */
    static void nothing(Due due, String call, Supplier<CrowToll> made, ToIntFunction<CrowToll> ask, int answer) {
        CrowToll asked = made.get();
        due.is(call, ask.applyAsInt(asked), answer);
        same(due, call + " did nothing", all(asked, true), all(made.get(), true));
    }

    static void nothing(Due due, String call, ToIntFunction<CrowToll> ask, int answer) {
        nothing(due, call, Twins::busy, ask, answer);
    }

    /** The call answers NONE, clears what lies there, and does nothing else. */
    static void clears(Due due, String call, Supplier<CrowToll> made, ToIntFunction<CrowToll> ask) {
        CrowToll asked = made.get();
        due.is(call, ask.applyAsInt(asked), CrowToll.NONE);
        due.lie(call, asked);
        same(due, call + " did nothing else", all(asked, false), all(made.get(), false));
    }

    private static void same(Due due, String what, List<String> one, List<String> other) {
        for (int i = 0; i < Math.max(one.size(), other.size()); i++) {
            String a = i < one.size() ? one.get(i) : "nothing";
            String b = i < other.size() ? other.get(i) : "nothing";
            due.is(what + ": " + a + ", its twin " + b, a.equals(b), true);
        }
    }

    /** All that can be asked, then what can be undone, redone, gone back to, and what is on the tape. */
    private static List<String> all(CrowToll x, boolean lying) {
        List<String> out = new ArrayList<>();
        for (int i = 0; i < (lying ? 10 : 9); i++) {
            out.add("about(" + i + ") " + x.about(i));
        }
        for (int i = 0; lying && i < x.about(9); i++) {
            out.add("lies(" + i + ") " + x.lies(i));
        }
        out.add("fault " + x.fault(0) + " at " + x.fault(1));
        day(x, out);
        for (int k = 0; k <= Math.min(3, x.about(6)); k++) {
            out.add("came at " + k + " " + x.came(0, k) + " " + x.came(1, k) + " " + x.came(2, k));
        }
        for (int i = 0; i < 40 && x.undo(); i++) {
            brief(x, "undone", out);
        }
        for (int i = 0; i < 40 && x.redo(); i++) {
            brief(x, "redone", out);
        }
        for (int box = 0; box < 3; box++) {
            out.add("back(" + box + ") " + x.back(box));
            brief(x, "box " + box, out);
        }
        out.add("road() " + x.road() + " fault " + x.fault(0) + " at " + x.fault(1));
        return out;
    }

    private static void day(CrowToll x, List<String> out) {
        for (int b = 0; b < x.about(0); b++) {
            out.add("bird " + b + " " + x.bird(b, 0) + " " + x.bird(b, 1) + " " + x.bird(b, 2) + " " + x.bird(b, 3));
        }
        for (int p = -1; p < x.about(1); p++) {
            out.add("income(" + p + ") " + x.income(p));
        }
        for (int c = 0; c < Math.min(8, x.about(2)); c++) {
            out.add("cart " + c + " " + x.cart(c, 0) + " " + x.cart(c, 1) + " " + x.cart(c, 2) + " " + x.cart(c, 3) + " " + x.cart(c, 4));
            for (int p = 0; p < x.about(1); p++) {
                out.add("cart " + c + " at post " + p + " " + x.counter(c, p) + " " + x.pays(c, p));
            }
        }
    }

    private static void brief(CrowToll x, String when, List<String> out) {
        out.add(when + ": carts " + x.about(2) + ", income " + x.income(-1) + ", a counts " + x.bird(0, 0) + ", b counts " + x.bird(1, 0));
    }
}
