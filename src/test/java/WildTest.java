import java.util.Random;

/** Calls without sense, by fixed seeds: none throws, and two objects that are asked the same answer the same. */
public final class WildTest {
    private static final Due DUE = new Due("WildTest");
    private static final int CALLS = 512;
    private static final String[] PIECES = {"bird ", "post ", "cart ", "law ", "a ", "b ", "c ", "counts ", "gap ", "takes ", "at ", "toll ",
        "sacks ", "maybe ", ";", ";", "(", ")", "not ", "and ", "or ", "<", ">", "=", "+", "-", "*", "/", "%", "nth ", "1 ", "2 ", "99 ", "600 "};
    private static final String[] LINES = {"bird a counts 3 gap 5;", "bird b counts 1 gap 2 takes 3;", "post p at 3 toll 9 a;",
        "cart c at 5 sacks 7;", "cart d at 6 sacks 7 maybe;", "law sacks;"};

    private static int number(Random random) {
        switch (random.nextInt(6)) {
            case 0:
                return random.nextInt();
            case 1:
                return random.nextInt(1000) - 100;
            case 2:
                return new int[] {Integer.MIN_VALUE, Integer.MAX_VALUE, -1, -2, 24, 20}[random.nextInt(6)];
            default:
                return random.nextInt(8);
        }
    }

    private static int call(CrowToll x, int which, int[] n) {
        switch (which) {
            case 0: return x.feed(n[0], n[1], n[2], n[3], n[4]);
            case 1: return x.end(n[0]);
            case 2: return x.road();
            case 3: return x.fault(n[0]);
            case 4: return x.cart(n[0], n[1]);
            case 5: return x.counter(n[0], n[1]);
            case 6: return x.pays(n[0], n[1]);
            case 7: return x.bird(n[0], n[1]);
            case 8: return x.income(n[0]);
            case 9: return x.come(n[0], n[1]);
            case 10: return x.doubt(n[0]);
            case 11: return x.learn(n[0], n[1]);
            case 12: return x.undo() ? 1 : 0;
            case 13: return x.redo() ? 1 : 0;
            case 14: return x.party(n[0], n[1], n[2], n[3], n[4]);
            case 15: return x.heaps(n[0], n[1], n[2]);
            case 16: return x.rest();
            case 17: return x.teach(n[0]);
            case 18: return x.seats();
            case 19: return x.lies(n[0]);
            case 20: return x.sight(n[0], n[1], n[2]);
            case 21: return x.untell(n[0]) ? 1 : 0;
            case 22: return x.later(n[0]);
            case 23: return x.came(n[0], n[1]);
            case 24: return x.image(n[0]);
            case 25: return x.back(n[0]);
            default: return x.about(n[0]);
        }
    }

    private static void run(int seed) {
        Random random = new Random(seed);
        CrowToll x = new CrowToll();
        CrowToll y = new CrowToll();
        for (int i = 0; i < CALLS; i++) {
            if (random.nextInt(40) == 0) {
                StringBuilder text = new StringBuilder();
                for (int k = random.nextInt(7); k > 0; k--) {
                    // mostly whole lines, or hardly a road would be without a fault
                    boolean whole = random.nextInt(20) != 0;
                    text.append(whole ? LINES[random.nextInt(LINES.length)] : PIECES[random.nextInt(PIECES.length)]);
                }
                Due.lay(x, text.toString());
                Due.lay(y, text.toString());
                DUE.is("seed " + seed + ", road()", x.road(), y.road());
            }
            int which = random.nextInt(27);
            int[] n = {number(random), number(random), number(random), number(random), number(random)};
            DUE.is("seed " + seed + ", call " + which, call(x, which, n), call(y, which, n));
        }
    }

    /** The longest texts, the deepest formulas: all 1,600 bytes of one sign. */
    private static void longText(String sign) {
        CrowToll x = new CrowToll();
        Due.lay(x, "law " + sign.repeat(1596 / sign.length()));
        x.road();
        x.fault(0);
    }

    public static void main(String[] args) {
        for (int seed = 0; seed < 400; seed++) {
            run(seed);
        }
        for (String sign : PIECES) {
            longText(sign);
        }
        longText("1+");
        longText("not ");
        longText("not 1 and ");
        longText("9");
        longText("a");
        DUE.finish();
    }
}
