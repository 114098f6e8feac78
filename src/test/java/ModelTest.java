import java.util.ArrayList;
import java.util.List;
import java.util.Random;

/** Long runs of calls, drawn by fixed seeds: CrowToll answers as Model does, whatever is asked. */
public final class ModelTest {
    private static int wrong = 0;

    private final Random random;
    private final CrowToll toll = new CrowToll();
    private final Model model = new Model();
    private final List<String> calls = new ArrayList<>();
    private int asked = 0;

    /** Those that came in truth, for the sights. */
    private final int hidden;

    private ModelTest(long seed) {
        random = new Random(seed);
        hidden = random.nextInt(4096);
    }

    /** An object answers 512 calls: a run that begins no more steps behind so many stays below that. */
    private boolean goesOn() {
        return asked < 300;
    }

    private void same(String call, int got, int due) {
        asked++;
        calls.add(call + " -> " + got);
        if (got != due) {
            wrong++;
            if (wrong <= 5) {
                System.out.println("ModelTest: " + call + " answered " + got + ", the model says " + due + "; the run:");
                System.out.println("  " + String.join("\n  ", calls));
            }
        }
    }

    private int draw(int least, int most) {
        return least + random.nextInt(most - least + 1);
    }

    private boolean chance(int percent) {
        return random.nextInt(100) < percent;
    }

    /** Mostly within the bounds, now and then on or beyond an edge, seldom far out. */
    private int arg(int least, int most) {
        int how = random.nextInt(40);
        if (how == 0) {
            return least - 1;
        }
        if (how == 1) {
            return most + 1;
        }
        if (how == 2) {
            return random.nextInt();
        }
        if (how == 3) {
            return new int[] {Integer.MIN_VALUE, Integer.MAX_VALUE, least, most}[random.nextInt(4)];
        }
        return most < least ? least : draw(least, most);
    }

    // ---- texts

    private String blank() {
        return new String[] {" ", " ", " ", "\n", "  "}[random.nextInt(5)];
    }

    private String oddName() {
        return new String[] {"law", "at", "nth", "abcdefgh", "abcdefghi", "x", "maybe", "q", "a"}[random.nextInt(9)];
    }

    private String name(char sort, int i) {
        return chance(1) ? oddName() : sort + String.valueOf((char) ('a' + i));
    }

    private String number(int least, int most, int odd) {
        if (random.nextInt(1000) < odd) {
            return new String[] {String.valueOf(most + 1), String.valueOf(Math.max(0, least - 1)), "12345", "7x", "0001", "600"}[random.nextInt(6)];
        }
        return String.valueOf(draw(least, most));
    }

    private String formula(int deep) {
        if (deep <= 0) {
            return new String[] {"sacks", "toll", "nth", String.valueOf(draw(0, 30)), "9999"}[random.nextInt(5)];
        }
        String a = formula(deep - 1 - random.nextInt(3));
        String b = formula(deep - 1 - random.nextInt(3));
        switch (random.nextInt(8)) {
            case 0:
                return "(" + a + ")";
            case 1:
                return "not " + a;
            case 2:
                return a + " and " + b;
            case 3:
                return a + " or " + b;
            case 4:
                return joined(a, new String[] {"<", ">", "="}[random.nextInt(3)], b);
            default:
                return joined(a, new String[] {"+", "-", "*", "/", "%"}[random.nextInt(5)], b);
        }
    }

    /** What may not stand at a sign's side is mostly put in brackets, now and then left as it is: a fault. */
    private String joined(String a, String sign, String b) {
        return bracketed(a) + sign + bracketed(b);
    }

    private String bracketed(String e) {
        return e.matches("[a-z0-9]+") || chance(5) ? e : "(" + e + ")";
    }

    private String road() {
        int odd = chance(30) ? 30 : 0;
        int spread = chance(50) ? 30 : chance(50) ? 120 : 600;
        StringBuilder s = new StringBuilder();
        int birds = draw(0, chance(5) ? 6 : 5);
        int posts = draw(chance(10) ? 0 : 1, chance(5) ? 5 : 4);
        int carts = draw(0, chance(5) ? 13 : 12);
        for (int i = 0; i < birds; i++) {
            s.append("bird ").append(name('b', i)).append(blank()).append("counts ").append(number(1, chance(70) ? 4 : 20, odd))
                .append(" gap ").append(number(1, chance(70) ? 12 : 99, odd));
            if (chance(50)) {
                s.append(blank()).append("takes").append(chance(80) ? " " : "").append(number(0, 9, odd));
            }
            s.append(";");
        }
        List<Integer> free = new ArrayList<>();
        for (int i = 0; i < birds; i++) {
            free.add(i);
        }
        for (int i = 0; i < posts; i++) {
            s.append("post ").append(name('p', i)).append(" at ").append(number(0, 99, odd)).append(" toll ").append(number(0, 99, odd));
            int there = i == posts - 1 && chance(70) ? free.size() : random.nextInt(free.size() + 1);
            for (int k = 0; k < there; k++) {
                s.append(blank()).append(name('b', free.remove(random.nextInt(free.size()))));
            }
            if (odd > 0 && chance(4)) {
                s.append(" ba");
            }
            s.append(chance(50) ? "; " : ";");
        }
        boolean sure = chance(30);
        for (int i = 0; i < carts; i++) {
            s.append("cart ").append(name('c', i)).append(" at ").append(number(0, spread, odd)).append(" sacks ").append(number(1, 99, odd));
            s.append(!sure && chance(40) ? " maybe;" : ";");
        }
        if (chance(60)) {
            s.insert(chance(50) ? 0 : s.length(), "law " + formula(draw(0, 4)) + ";");
        }
        if (odd > 0 && chance(30) && s.length() > 0) {
            int at = random.nextInt(s.length());
            if (chance(50)) {
                s.deleteCharAt(at);
            } else {
                s.insert(at, new String[] {";", "(", ")", "x", "7", " ", "\t", "A", "not ", "law 1;", "bird", "" + (char) 200}[random.nextInt(12)]);
            }
        }
        return s.length() > 1600 ? s.substring(0, 1600) : s.toString();
    }

    private void lay(String text) {
        calls.add("lay: " + text.replace("\n", "~"));
        same("end(0)", toll.end(0), model.end(0));
        for (int i = 0; i < text.length(); i += 20) {
            int[] n = new int[5];
            for (int k = 0; k < 20; k++) {
                n[k / 4] = n[k / 4] << 8 | (i + k < text.length() ? text.charAt(i + k) : ' ');
            }
            same("feed", toll.feed(n[0], n[1], n[2], n[3], n[4]), model.feed(n));
        }
        same("end", toll.end(text.length()), model.end(text.length()));
        newRoad();
        if (model.tape.length() > 0 && chance(50)) {
            same("feed", toll.feed(1, 2, 3, 4, 5), model.feed(1, 2, 3, 4, 5));
        }
    }

    private void newRoad() {
        same("road()", toll.road(), model.road());
        same("fault(0)", toll.fault(0), model.fault(0));
        same("fault(1)", toll.fault(1), model.fault(1));
    }

    // ---- calls

    private void lyingThere() {
        for (int i = -1; i <= model.lie.size(); i++) {
            same("lies(" + i + ")", toll.lies(i), model.lies(i));
        }
    }

    private void ask() {
        int c = arg(0, model.carts.size() - 1);
        int p = arg(0, model.road.posts.size() - 1);
        int b = arg(0, model.road.birds.size() - 1);
        int w = arg(0, 4);
        same("cart(" + c + ", " + w + ")", toll.cart(c, w), model.cart(c, w));
        same("counter(" + c + ", " + p + ")", toll.counter(c, p), model.counter(c, p));
        same("pays(" + c + ", " + p + ")", toll.pays(c, p), model.pays(c, p));
        w = arg(0, 3);
        same("bird(" + b + ", " + w + ")", toll.bird(b, w), model.bird(b, w));
        same("income(" + p + ")", toll.income(p), model.income(p));
        same("income(-1)", toll.income(-1), model.income(-1));
        w = arg(0, 9);
        same("about(" + w + ")", toll.about(w), model.about(w));
    }

    private void act() {
        int a;
        int b;
        switch (random.nextInt(6)) {
            case 0:
                a = arg(0, chance(50) ? 30 : 600);
                b = arg(1, 99);
                same("come(" + a + ", " + b + ")", toll.come(a, b), model.come(a, b));
                break;
            case 1:
            case 2:
                a = arg(0, model.carts.size() - 1);
                same("doubt(" + a + ")", toll.doubt(a), model.doubt(a));
                break;
            case 3:
                a = arg(0, model.road.birds.size() - 1);
                b = chance(80) ? arg(-3, 3) : arg(-19, 19);
                same("learn(" + a + ", " + b + ")", toll.learn(a, b), model.learn(a, b));
                break;
            case 4:
                same("undo()", toll.undo() ? 1 : 0, model.undo() ? 1 : 0);
                break;
            default:
                same("redo()", toll.redo() ? 1 : 0, model.redo() ? 1 : 0);
                break;
        }
    }

    private void plan() {
        int a;
        int b;
        int c;
        switch (random.nextInt(6)) {
            case 0:
                a = arg(1, 3);
                b = arg(1, 99);
                c = chance(70) ? arg(0, 40) : arg(0, 600);
                int w = chance(95) ? arg(0, 7) : arg(0, 20);
                int late = chance(50) ? arg(0, 4) : arg(0, 99);
                same("party(" + a + ", " + b + ", " + c + ", " + w + ", " + late + ")",
                    toll.party(a, b, c, w, late), model.party(a, b, c, w, late));
                break;
            case 1:
                a = arg(1, 99);
                b = arg(0, chance(50) ? 40 : 600);
                c = arg(0, 1);
                same("heaps(" + a + ", " + b + ", " + c + ")", toll.heaps(a, b, c), model.heaps(a, b, c));
                break;
            case 2:
                same("rest()", toll.rest(), model.rest());
                break;
            case 3:
                a = arg(0, 3);
                same("teach(" + a + ")", toll.teach(a), model.teach(a));
                break;
            case 4:
                same("seats()", toll.seats(), model.seats());
                break;
            default:
                a = arg(0, 2);
                if (chance(50)) {
                    same("image(" + a + ")", toll.image(a), model.image(a));
                } else {
                    same("back(" + a + ")", toll.back(a), model.back(a));
                }
                break;
        }
        lyingThere();
    }

    private void see() {
        int a = arg(0, chance(70) ? 130 : 720);
        int b = arg(0, model.road.birds.size() - 1);
        int c = chance(90) ? arg(0, 3) : arg(0, 20);
        if (chance(95) && model.isBird(b)) {
            // what some set makes so leaves sets over more often
            List<Model.Cart> came = new ArrayList<>();
            for (int i = 0; i < model.road.carts.size(); i++) {
                Model.Cart x = model.road.carts.get(i);
                came.add(new Model.Cart("", x.minute(), x.sacks(), x.maybe(), !x.maybe() || (hidden >> i & 1) == 1));
            }
            c = model.watch(came, model.road.birds.stream().map(Model.Bird::counts).toList(), model.seatsTold(), a).count[b];
        }
        same("sight(" + a + ", " + b + ", " + c + ")", toll.sight(a, b, c), model.sight(a, b, c));
        if (chance(30)) {
            a = chance(90) ? arg(0, 3) : arg(0, 1000);
            same("later(" + a + ")", toll.later(a), model.later(a));
        }
        if (chance(30)) {
            a = arg(0, model.sights.size() - 1);
            same("untell(" + a + ")", toll.untell(a) ? 1 : 0, model.untell(a) ? 1 : 0);
        }
        if (chance(50)) {
            a = arg(0, 2);
            b = arg(0, model.time);
            same("came(" + a + ", " + b + ")", toll.came(a, b), model.came(a, b));
        }
    }

    private void run() {
        for (int i = 0; i < 3 && goesOn(); i++) {
            lay(road());
            for (int k = 0; k < 8 && goesOn(); k++) {
                act();
                ask();
                see();
                if (chance(60)) {
                    plan();
                }
            }
        }
    }

    /** Formulas alone, in one cart's pay: the reader and the law are tried far more often this way. */
    private void lawRun() {
        for (int i = 0; i < 10 && goesOn(); i++) {
            String e = formula(draw(0, 7));
            if (chance(20)) {
                int at = random.nextInt(e.length());
                e = e.substring(0, at) + new String[] {"not ", "(", ")", "<", "", " or ", "0", "not not not not not not not not "}[random.nextInt(8)] + e.substring(at);
            }
            lay("bird b counts 20 gap 99;post p at 1 toll " + draw(0, 99) + " b;cart c at 1 sacks " + draw(1, 99) + ";cart d at 2 sacks 5;law " + e + ";");
            same("pays(0, 0)", toll.pays(0, 0), model.pays(0, 0));
            same("pays(1, 0)", toll.pays(1, 0), model.pays(1, 0));
            same("about(8)", toll.about(8), model.about(8));
        }
    }

    /** Many acts in a row: more than forty are not kept. */
    private void actRun() {
        lay("bird b counts 3 gap 5;bird d counts 1 gap 9;post p at 3 toll 7 b d;cart a at 1 sacks 2 maybe;cart b at 4 sacks 9;cart c at 5 sacks 1 maybe;law toll * nth + sacks;");
        for (int i = 0; i < 200 && goesOn(); i++) {
            act();
            if (chance(3)) {
                for (int k = 0; k < 45; k++) {
                    same("undo()", toll.undo() ? 1 : 0, model.undo() ? 1 : 0);
                }
                for (int k = 0; k < draw(0, 45); k++) {
                    same("redo()", toll.redo() ? 1 : 0, model.redo() ? 1 : 0);
                }
            }
            if (chance(10)) {
                ask();
            }
        }
    }

    /** Few carts close together, birds that soon begin anew, tolls near what waiting costs: drivers change their minds. */
    private void restRun() {
        for (int i = 0; i < 6 && goesOn(); i++) {
            StringBuilder s = new StringBuilder();
            int birds = draw(1, 3);
            for (int k = 0; k < birds; k++) {
                s.append("bird b").append((char) ('a' + k)).append(" counts ").append(draw(1, 3)).append(" gap ").append(draw(1, 4))
                    .append(" takes ").append(draw(0, 2)).append(";");
            }
            s.append("post p at 5 toll ").append(draw(1, 9));
            for (int k = 0; k < birds; k++) {
                s.append(k == 1 && chance(50) ? ";post q at 9 toll " + draw(1, 6) : "").append(" b").append((char) ('a' + k));
            }
            s.append(";");
            int carts = draw(1, 8);
            for (int k = 0; k < carts; k++) {
                s.append("cart c").append((char) ('a' + k)).append(" at ").append(draw(0, 20)).append(" sacks ").append(draw(1, 9)).append(";");
            }
            s.append(chance(50) ? "law sacks % 5 + nth * toll;" : "");
            lay(s.toString());
            same("rest()", toll.rest(), model.rest());
            lyingThere();
            int sacks = draw(1, 30);
            int minute = draw(0, 20);
            same("heaps(" + sacks + ", " + minute + ", 0)", toll.heaps(sacks, minute, 0), model.heaps(sacks, minute, 0));
            same("heaps(" + sacks + ", " + minute + ", 1)", toll.heaps(sacks, minute, 1), model.heaps(sacks, minute, 1));
            int n = draw(1, 3);
            int w = draw(0, n == 3 ? 6 : 12);
            int late = draw(0, 3);
            same("party(" + n + ", " + sacks + ", " + minute + ", " + w + ", " + late + ")",
                toll.party(n, sacks, minute, w, late), model.party(n, sacks, minute, w, late));
            lyingThere();
        }
    }

    public static void main(String[] args) {
        int runs = args.length > 0 ? Integer.parseInt(args[0]) : 500;
        int from = args.length > 1 ? Integer.parseInt(args[1]) : 0;
        for (int i = from; i < from + runs && wrong == 0; i++) {
            new ModelTest(i).run();
            new ModelTest(i).lawRun();
            new ModelTest(i).actRun();
            new ModelTest(i).restRun();
        }
        System.out.println(wrong == 0 ? "ModelTest: all answers are as due" : "ModelTest: " + wrong + " answers are not as due");
        if (wrong != 0) {
            System.exit(1);
        }
    }
}
