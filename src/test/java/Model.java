import java.util.ArrayDeque;
import java.util.ArrayList;
import java.util.Arrays;
import java.util.Comparator;
import java.util.Deque;
import java.util.HashMap;
import java.util.List;
import java.util.Map;
import java.util.Set;

/**
 * The document once more, written as slowly and plainly as can be, with the whole Java library:
 * every question is answered by going through the day from its first cart. ModelTest holds CrowToll against it.
 */
final class Model {

    record Bird(String name, int counts, int gap, int takes) { }

    record Post(String name, int at, int toll, List<Integer> birds) { }

    record Cart(String name, int minute, int sacks, boolean maybe, boolean comes) { }

    interface Formula { int of(int sacks, int toll, int nth); }

    record Token(char kind, String text, int place) { }

    record State(List<Cart> carts, List<Integer> counts) { }

    record Sight(int minute, int bird, int count, int told, int untold) { }

    static final class Fault extends RuntimeException {
        private static final long serialVersionUID = 1L;
        final int which;
        final int place;

        Fault(int which, int place) {
            this.which = which;
            this.place = place;
        }
    }

    static final Set<String> WORDS = Set.of("bird", "counts", "gap", "takes", "post", "at", "toll", "cart", "sacks",
            "maybe", "law", "or", "and", "not", "nth");

    static final class Road {
        final List<Bird> birds = new ArrayList<>();
        final List<Post> posts = new ArrayList<>();
        final List<Cart> carts = new ArrayList<>();
        Formula law;
        int units;
    }

    // ---- reading

    static List<Token> tokens(String text) {
        List<Token> out = new ArrayList<>();
        int i = 0;
        while (i < text.length()) {
            char c = text.charAt(i);
            if (c == ' ' || c == '\n') {
                i++;
                continue;
            }
            String rest = text.substring(i);
            String letters = rest.replaceFirst("(?s)^([a-z]*).*$", "$1");
            String digits = rest.replaceFirst("(?s)^([0-9]*).*$", "$1");
            if (!letters.isEmpty()) {
                out.add(new Token(letters.length() > 8 ? '?' : 'w', letters, i));
                i += letters.length();
            } else if (!digits.isEmpty()) {
                boolean bad = digits.length() > 4 || rest.matches("(?s)^[0-9]+[a-z].*$");
                out.add(new Token(bad ? '?' : 'n', digits, i));
                i += digits.length();
            } else {
                out.add(new Token(";()<>=+-*/%".indexOf(c) >= 0 ? 's' : '?', String.valueOf(c), i));
                i++;
            }
        }
        out.add(new Token('e', "", text.length()));
        return out;
    }

    static final class Parser {
        final List<Token> tokens;
        int i = 0;
        final Road road = new Road();

        Parser(String text) {
            tokens = tokens(text);
        }

        Token t() {
            return tokens.get(i);
        }

        Fault bad() {
            return new Fault(t().kind == '?' ? 1 : 2, t().place);
        }

        boolean is(String s) {
            return t().kind != 'e' && t().kind != '?' && t().text.equals(s);
        }

        void need(String s) {
            if (!is(s)) {
                throw bad();
            }
            i++;
        }

        String name() {
            if (t().kind != 'w' || WORDS.contains(t().text)) {
                throw bad();
            }
            return t().text;
        }

        int number(int least, int most) {
            if (t().kind != 'n') {
                throw bad();
            }
            int n = Integer.parseInt(t().text);
            if (n < least || n > most) {
                throw new Fault(4, t().place);
            }
            i++;
            return n;
        }

        Road parse() {
            while (t().kind != 'e') {
                if (is("bird") && road.birds.size() < 5) {
                    bird();
                } else if (is("post") && road.posts.size() < 4) {
                    post();
                } else if (is("cart") && road.carts.size() < 12) {
                    cart();
                } else if (is("law") && road.law == null) {
                    i++;
                    road.law = e(0);
                    need(";");
                } else {
                    throw bad();
                }
            }
            return road;
        }

        void bird() {
            i++;
            String n = name();
            if (road.birds.stream().anyMatch(b -> b.name.equals(n))) {
                throw new Fault(3, t().place);
            }
            i++;
            need("counts");
            int c = number(1, 20);
            need("gap");
            int g = number(1, 99);
            int k = 0;
            if (is("takes")) {
                i++;
                k = number(0, 9);
            }
            need(";");
            road.birds.add(new Bird(n, c, g, k));
        }

        void post() {
            i++;
            String n = name();
            if (road.posts.stream().anyMatch(b -> b.name.equals(n))) {
                throw new Fault(3, t().place);
            }
            i++;
            need("at");
            int at = number(0, 99);
            need("toll");
            int toll = number(0, 99);
            List<Integer> there = new ArrayList<>();
            while (!is(";")) {
                String b = name();
                int who = -1;
                for (int k = 0; k < road.birds.size(); k++) {
                    if (road.birds.get(k).name.equals(b)) {
                        who = k;
                    }
                }
                final int bird = who;
                if (bird < 0) {
                    throw new Fault(5, t().place);
                }
                if (there.contains(bird) || road.posts.stream().anyMatch(p -> p.birds.contains(bird))) {
                    throw new Fault(3, t().place);
                }
                there.add(bird);
                i++;
            }
            need(";");
            road.posts.add(new Post(n, at, toll, there));
        }

        void cart() {
            i++;
            String n = name();
            if (road.carts.stream().anyMatch(b -> b.name.equals(n))) {
                throw new Fault(3, t().place);
            }
            i++;
            need("at");
            int at = number(0, 600);
            need("sacks");
            int s = number(1, 99);
            boolean m = is("maybe");
            if (m) {
                i++;
            }
            need(";");
            road.carts.add(new Cart(n, at, s, m, !m));
        }

        Formula e(int d) {
            Formula f = both(d);
            while (is("or")) {
                i++;
                Formula a = f;
                Formula b = both(d);
                f = (s, t, n) -> a.of(s, t, n) != 0 | b.of(s, t, n) != 0 ? 1 : 0;
            }
            return f;
        }

        Formula both(int d) {
            Formula f = one(d);
            while (is("and")) {
                i++;
                Formula a = f;
                Formula b = one(d);
                f = (s, t, n) -> a.of(s, t, n) != 0 & b.of(s, t, n) != 0 ? 1 : 0;
            }
            return f;
        }

        Formula one(int d) {
            if (is("not")) {
                if (d == 7) {
                    throw bad();
                }
                i++;
                Formula a = one(d + 1);
                return (s, t, n) -> a.of(s, t, n) == 0 ? 1 : 0;
            }
            Formula a = sum(d);
            if (!is("<") && !is(">") && !is("=")) {
                return a;
            }
            String how = t().text;
            i++;
            Formula b = sum(d);
            return (s, t, n) -> {
                int c = Integer.compare(a.of(s, t, n), b.of(s, t, n));
                return (how.equals("<") ? c < 0 : how.equals(">") ? c > 0 : c == 0) ? 1 : 0;
            };
        }

        Formula sum(int d) {
            Formula f = term(d);
            while (is("+") || is("-")) {
                int k = is("+") ? 1 : -1;
                i++;
                Formula a = f;
                Formula b = term(d);
                f = (s, t, n) -> a.of(s, t, n) + k * b.of(s, t, n);
            }
            return f;
        }

        Formula term(int d) {
            Formula f = unit(d);
            while (is("*") || is("/") || is("%")) {
                char c = t().text.charAt(0);
                i++;
                Formula a = f;
                Formula b = unit(d);
                f = (s, t, n) -> {
                    long x = a.of(s, t, n);
                    long y = b.of(s, t, n);
                    return (int) (c == '*' ? x * y : y == 0 ? 0 : c == '/' ? x / y : x % y);
                };
            }
            return f;
        }

        Formula unit(int d) {
            if (road.units == 30) {
                throw bad();
            }
            if (is("(")) {
                if (d == 7) {
                    throw bad();
                }
                road.units++;
                i++;
                Formula f = e(d + 1);
                need(")");
                return f;
            }
            Token u = t();
            if (u.kind != 'n' && !is("sacks") && !is("toll") && !is("nth")) {
                throw bad();
            }
            road.units++;
            i++;
            return u.kind == 'n' ? (s, t, n) -> Integer.parseInt(u.text)
                    : u.text.equals("sacks") ? (s, t, n) -> s : u.text.equals("toll") ? (s, t, n) -> t : (s, t, n) -> n;
        }
    }

    // ---- the day

    static final class Seen {
        final Map<Integer, Map<Integer, Integer>> counter = new HashMap<>();
        final Map<Integer, Map<Integer, Integer>> paid = new HashMap<>();
        final int[] count = new int[5];
        final int[] total = new int[5];

        int paidBy(int cart) {
            return paid.getOrDefault(cart, Map.of()).values().stream().mapToInt(v -> v).sum();
        }

        int all() {
            return paid.keySet().stream().mapToInt(this::paidBy).sum();
        }
    }

    /** All carts of the list that come, those with what came by a post till a minute alone. */
    Seen watch(List<Cart> carts, List<Integer> counts, List<List<Integer>> seats, int till) {
        Seen seen = new Seen();
        for (int p = 0; p < road.posts.size(); p++) {
            Post post = road.posts.get(p);
            List<Integer> order = new ArrayList<>();
            for (int c = 0; c < carts.size(); c++) {
                if (carts.get(c).comes && carts.get(c).minute + post.at <= till) {
                    order.add(c);
                }
            }
            order.sort(Comparator.comparingInt((Integer c) -> carts.get(c).minute).thenComparingInt(c -> c));
            Map<Integer, Integer> looked = new HashMap<>();
            Map<Integer, Integer> counted = new HashMap<>();
            for (int c : order) {
                int now = carts.get(c).minute + post.at;
                for (int b : seats.get(p)) {
                    Bird bird = road.birds.get(b);
                    if (counted.containsKey(b) && now - looked.get(b) > bird.gap) {
                        seen.count[b] = 0;
                        counted.remove(b);
                    }
                    looked.put(b, now);
                    if (counted.containsKey(b) && now - counted.get(b) <= bird.takes) {
                        break;
                    }
                    if (seen.count[b] < counts.get(b)) {
                        seen.count[b]++;
                        seen.total[b]++;
                        counted.put(b, now);
                        int pay = road.law == null ? post.toll
                                : road.law.of(carts.get(c).sacks, post.toll, seen.count[b]);
                        seen.counter.computeIfAbsent(c, k -> new HashMap<>()).put(p, b);
                        seen.paid.computeIfAbsent(c, k -> new HashMap<>()).put(p, pay < 0 ? 0 : pay > 9999 ? 9999 : pay);
                        break;
                    }
                }
            }
        }
        return seen;
    }

    List<List<Integer>> seatsTold() {
        return road.posts.stream().map(Post::birds).toList();
    }

    Seen earnest() {
        return watch(carts, counts, seatsTold(), 100000);
    }

    // ---- the state

    Road road = new Road();
    String tape = "";
    int fault = 0;
    int place = -1;
    List<Cart> carts = new ArrayList<>();
    List<Integer> counts = new ArrayList<>();
    final Deque<State> undo = new ArrayDeque<>();
    final Deque<State> redo = new ArrayDeque<>();
    final State[] boxes = new State[3];
    List<Integer> lie = List.of();
    List<Sight> sights = new ArrayList<>();
    int time = 0;

    State now() {
        return new State(List.copyOf(carts), List.copyOf(counts));
    }

    void put(State s) {
        carts = new ArrayList<>(s.carts);
        counts = new ArrayList<>(s.counts);
    }

    void beforeAct() {
        undo.addLast(now());
        redo.clear();
        if (undo.size() > 40) {
            undo.removeFirst();
        }
    }

    static boolean in(int x, int a, int b) {
        return a <= x && x <= b;
    }

    boolean isCart(int c) {
        return in(c, 0, carts.size() - 1);
    }

    boolean isPost(int p) {
        return in(p, 0, road.posts.size() - 1);
    }

    boolean isBird(int b) {
        return in(b, 0, road.birds.size() - 1);
    }

    // ---- the face

    int feed(int... five) {
        if (tape.length() + 20 > 1600) {
            return -1;
        }
        StringBuilder s = new StringBuilder(tape);
        for (int x : five) {
            s.append((char) (x >>> 24)).append((char) (x >> 16 & 255)).append((char) (x >> 8 & 255)).append((char) (x & 255));
        }
        tape = s.toString();
        return tape.length();
    }

    int end(int n) {
        if (!in(n, 0, tape.length())) {
            return -1;
        }
        tape = tape.substring(0, n);
        return n;
    }

    int road() {
        try {
            road = new Parser(tape).parse();
        } catch (Fault f) {
            fault = f.which;
            place = f.place;
            return -1;
        }
        fault = 0;
        place = -1;
        tape = "";
        carts = new ArrayList<>(road.carts);
        counts = new ArrayList<>(road.birds.stream().map(Bird::counts).toList());
        undo.clear();
        redo.clear();
        Arrays.fill(boxes, null);
        lie = List.of();
        sights.clear();
        return carts.size();
    }

    int fault(int what) {
        return what == 0 ? fault : what == 1 ? place : -1;
    }

    int cart(int c, int what) {
        if (!isCart(c) || !in(what, 0, 4)) {
            return -1;
        }
        Cart x = carts.get(c);
        return new int[] {x.minute, x.sacks, x.comes ? 1 : 0, x.maybe ? 1 : 0, earnest().paidBy(c)}[what];
    }

    int counter(int c, int p) {
        return !isCart(c) || !isPost(p) ? -2 : earnest().counter.getOrDefault(c, Map.of()).getOrDefault(p, -1);
    }

    int pays(int c, int p) {
        return !isCart(c) || !isPost(p) ? -1 : earnest().paid.getOrDefault(c, Map.of()).getOrDefault(p, 0);
    }

    int seatOf(int b) {
        for (int p = 0; p < road.posts.size(); p++) {
            if (road.posts.get(p).birds.contains(b)) {
                return p;
            }
        }
        return -1;
    }

    int bird(int b, int what) {
        if (!isBird(b) || !in(what, 0, 3)) {
            return -1;
        }
        Seen s = earnest();
        return new int[] {counts.get(b), seatOf(b), s.count[b], s.total[b]}[what];
    }

    int income(int p) {
        if (p != -1 && !isPost(p)) {
            return -2;
        }
        int sum = 0;
        for (Map<Integer, Integer> m : earnest().paid.values()) {
            for (Map.Entry<Integer, Integer> e : m.entrySet()) {
                sum += p == -1 || e.getKey() == p ? e.getValue() : 0;
            }
        }
        return sum;
    }

    int come(int minute, int sacks) {
        if (!in(minute, 0, 600) || !in(sacks, 1, 99) || carts.size() == 24) {
            return -1;
        }
        beforeAct();
        carts.add(new Cart("", minute, sacks, false, true));
        return carts.size() - 1;
    }

    int doubt(int c) {
        if (!isCart(c) || !carts.get(c).maybe) {
            return -1;
        }
        beforeAct();
        Cart x = carts.get(c);
        carts.set(c, new Cart(x.name, x.minute, x.sacks, true, !x.comes));
        return x.comes ? 0 : 1;
    }

    int learn(int b, int by) {
        if (!isBird(b) || !in(by, -19, 19) || !in(counts.get(b) + by, 1, 20)) {
            return -1;
        }
        beforeAct();
        counts.set(b, counts.get(b) + by);
        return counts.get(b);
    }

    boolean undo() {
        if (undo.isEmpty()) {
            return false;
        }
        redo.addLast(now());
        put(undo.removeLast());
        return true;
    }

    boolean redo() {
        if (redo.isEmpty()) {
            return false;
        }
        undo.addLast(now());
        put(redo.removeLast());
        return true;
    }

    private int payOfMore(int[] minutes, int[] sacks, int n) {
        List<Cart> all = new ArrayList<>(carts);
        for (int i = 0; i < n; i++) {
            all.add(new Cart("", minutes[i], sacks[i], false, true));
        }
        Seen s = watch(all, counts, seatsTold(), 100000);
        int sum = 0;
        for (int i = 0; i < n; i++) {
            sum += s.paidBy(carts.size() + i);
        }
        return sum;
    }

    int party(int n, int sacks, int minute, int w, int late) {
        lie = List.of();
        if (!in(n, 1, 3) || !in(sacks, 1, 99) || !in(minute, 0, 600) || !in(w, 0, 20) || !in(late, 0, 99)
                || carts.size() + n > 24) {
            return -1;
        }
        int best = Integer.MAX_VALUE;
        for (int a = 0; a <= w; a++) {
            for (int b = n > 1 ? a : w; b <= w; b++) {
                for (int c = n > 2 ? b : w; c <= w; c++) {
                    int[] off = {a, b, c};
                    int sum = payOfMore(new int[] {minute + a, minute + b, minute + c}, new int[] {sacks, sacks, sacks}, n);
                    for (int i = 0; i < n; i++) {
                        sum += off[i] * late;
                    }
                    if (sum < best) {
                        best = sum;
                        lie = Arrays.stream(off, 0, n).boxed().toList();
                    }
                }
            }
        }
        return best;
    }

    int heaps(int sacks, int minute, int what) {
        if (!in(sacks, 1, 99) || !in(minute, 0, 600) || !in(what, 0, 1) || carts.size() > 18) {
            return -1;
        }
        int best = Integer.MAX_VALUE;
        int which = 0;
        for (int m = 1; m <= Math.min(6, sacks); m++) {
            int[] loads = new int[6];
            for (int s = 0; s < sacks; s++) {
                loads[s % m]++;
            }
            int[] minutes = new int[6];
            Arrays.fill(minutes, minute);
            int sum = payOfMore(minutes, loads, m);
            if (sum < best) {
                best = sum;
                which = m;
            }
        }
        return what == 0 ? which : best;
    }

    int rest() {
        lie = List.of();
        if (carts.stream().filter(Cart::comes).count() > 8) {
            return -1;
        }
        int[] late = new int[carts.size()];
        for (int turn = 1; turn <= 20; turn++) {
            int[] before = late.clone();
            for (int c = 0; c < late.length; c++) {
                if (carts.get(c).comes) {
                    late[c] = bestLate(late, c);
                }
            }
            if (Arrays.equals(before, late)) {
                lie = Arrays.stream(late).boxed().toList();
                return turn;
            }
        }
        return -1;
    }

    private int bestLate(int[] late, int c) {
        int best = Integer.MAX_VALUE;
        int which = 0;
        for (int d = 0; d <= 9; d++) {
            List<Cart> all = new ArrayList<>();
            for (int i = 0; i < late.length; i++) {
                Cart x = carts.get(i);
                all.add(new Cart("", x.minute + (i == c ? d : late[i]), x.sacks, x.maybe, x.comes));
            }
            int sum = watch(all, counts, seatsTold(), 100000).paidBy(c) + d;
            if (sum < best) {
                best = sum;
                which = d;
            }
        }
        return which;
    }

    int teach(int so) {
        lie = List.of();
        int[] best = {-1};
        if (in(so, 0, 3)) {
            teachFrom(0, so, new ArrayList<>(), best);
        }
        return best[0];
    }

    private void teachFrom(int b, int left, List<Integer> way, int[] best) {
        if (b == road.birds.size()) {
            if (left == 0) {
                List<Integer> so = new ArrayList<>();
                for (int i = 0; i < b; i++) {
                    so.add(counts.get(i) + way.get(i));
                }
                int sum = watch(carts, so, seatsTold(), 100000).all();
                if (sum > best[0]) {
                    best[0] = sum;
                    lie = List.copyOf(way);
                }
            }
            return;
        }
        for (int x = 0; x <= left && counts.get(b) + x <= 20; x++) {
            way.add(x);
            teachFrom(b + 1, left - x, way, best);
            way.remove(b);
        }
    }

    int seats() {
        lie = List.of();
        int[] best = {-1};
        if (!road.posts.isEmpty()) {
            seatsFrom(0, new ArrayList<>(), best);
        }
        return best[0];
    }

    private void seatsFrom(int b, List<Integer> way, int[] best) {
        if (b == road.birds.size()) {
            List<List<Integer>> seats = new ArrayList<>();
            for (int p = 0; p < road.posts.size(); p++) {
                List<Integer> there = new ArrayList<>();
                for (int i = 0; i < b; i++) {
                    if (way.get(i) == p) {
                        there.add(i);
                    }
                }
                seats.add(there);
            }
            int sum = watch(carts, counts, seats, 100000).all();
            if (sum > best[0]) {
                best[0] = sum;
                lie = List.copyOf(way);
            }
            return;
        }
        for (int p = 0; p < road.posts.size(); p++) {
            way.add(p);
            seatsFrom(b + 1, way, best);
            way.remove(b);
        }
    }

    int lies(int i) {
        return in(i, 0, lie.size() - 1) ? lie.get(i) : -1;
    }

    int sight(int minute, int bird, int count) {
        if (!in(minute, 0, 720) || !isBird(bird) || !in(count, 0, 20) || sights.size() == 30) {
            return -1;
        }
        sights.add(new Sight(minute, bird, count, time, Integer.MAX_VALUE));
        return sights.size() - 1;
    }

    boolean untell(int i) {
        if (!in(i, 0, sights.size() - 1) || sights.get(i).untold != Integer.MAX_VALUE) {
            return false;
        }
        Sight s = sights.get(i);
        sights.set(i, new Sight(s.minute, s.bird, s.count, s.told, time));
        return true;
    }

    int later(int by) {
        if (!in(by, 0, 1000) || time + by > 100000) {
            return -1;
        }
        return time += by;
    }

    int came(int what, int at) {
        if (!in(what, 0, 2)) {
            return -1;
        }
        // past the last time nothing changes, and "never untold" must stay above
        int k = Math.min(at, 200000);
        List<Integer> told = road.birds.stream().map(Bird::counts).toList();
        int maybe = 0;
        for (int i = 0; i < road.carts.size(); i++) {
            maybe |= road.carts.get(i).maybe ? 1 << i : 0;
        }
        int n = 0;
        int all = maybe;
        int some = 0;
        for (int set = 0; set < 4096; set++) {
            if ((set & ~maybe) == 0 && fits(set, k, told)) {
                n++;
                all &= set;
                some |= set;
            }
        }
        return what == 0 ? n : n == 0 ? 0 : what == 1 ? all : maybe & ~some;
    }

    private boolean fits(int set, int k, List<Integer> told) {
        List<Cart> came = new ArrayList<>();
        for (int i = 0; i < road.carts.size(); i++) {
            Cart x = road.carts.get(i);
            came.add(new Cart("", x.minute, x.sacks, x.maybe, !x.maybe || (set >> i & 1) == 1));
        }
        for (Sight s : sights) {
            if (s.told <= k && s.untold > k && watch(came, told, seatsTold(), s.minute).count[s.bird] != s.count) {
                return false;
            }
        }
        return true;
    }

    int image(int box) {
        if (!in(box, 0, 2)) {
            return -1;
        }
        boxes[box] = now();
        return carts.size();
    }

    int back(int box) {
        if (!in(box, 0, 2) || boxes[box] == null) {
            return -1;
        }
        put(boxes[box]);
        undo.clear();
        redo.clear();
        return carts.size();
    }

    int about(int what) {
        int[] all = {road.birds.size(), road.posts.size(), carts.size(), undo.size(), redo.size(), sights.size(), time,
            tape.length(), road.units, lie.size()};
        return in(what, 0, 9) ? all[what] : -1;
    }
}
