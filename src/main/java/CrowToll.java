import java.util.Arrays;

/**
 * Toll taken by crows that count carts, and can count but so far.
 * The document (DOC.md) says what each call answers; its words in capitals are used here as they are there.
 */
public final class CrowToll {

    public static final int NONE = -1;

    private static final int NO_SUCH = -2;

    private static final int TAPE_MOST = 1600;
    private static final int FEED = 20;
    private static final int BIRDS_MOST = 5;
    private static final int POSTS_MOST = 4;
    private static final int TOLD_MOST = 12;
    private static final int CARTS_MOST = 24;
    private static final int COUNTS_MOST = 20;
    private static final int FURTHER_MOST = 19;
    private static final int UNITS_MOST = 30;
    private static final int WITHIN_MOST = 6;
    private static final int MINUTE_MOST = 600;
    private static final int SACKS_MOST = 99;
    private static final int PAY_MOST = 9999;
    private static final int ACTS_MOST = 40;
    private static final int PARTY_MOST = 3;
    private static final int WINDOW_MOST = 20;
    private static final int LATE_MOST = 99;
    private static final int HEAPS_MOST = 6;
    private static final int REST_CARTS_MOST = 8;
    private static final int REST_LATER_MOST = 9;
    private static final int REST_TURNS_MOST = 20;
    private static final int TEACH_MOST = 3;
    private static final int SIGHTS_MOST = 30;
    private static final int SIGHT_MINUTE_MOST = 720;
    private static final int LATER_MOST = 1000;
    private static final int TIME_MOST = 100000;
    private static final int BOXES = 3;

    private final int[] tape;
    private int onTape;
    private final Reader reader;
    private final Road told;
    private final Stand stand;
    private final Stand[] boxes;
    private final Acts acts;
    private final Prices prices;
    private final Day day;
    private final Drivers drivers;
    private final Keepers keepers;
    private final Sights sights;
    private final int[] lying;
    private int lyingThere;

    public CrowToll() {
        tape = new int[TAPE_MOST];
        onTape = 0;
        reader = new Reader();
        told = new Road();
        told.clear();
        stand = new Stand();
        stand.asTold(told);
        boxes = new Stand[BOXES];
        for (int i = 0; i < BOXES; i++) {
            boxes[i] = new Stand();
            boxes[i].carts = NONE;
        }
        acts = new Acts();
        prices = new Prices(told);
        day = new Day(told, stand, prices);
        drivers = new Drivers(told, stand, prices);
        keepers = new Keepers(told, stand, prices);
        sights = new Sights(told);
        lying = new int[CARTS_MOST];
        lyingThere = 0;
    }

    public int feed(int a, int b, int c, int d, int e) {
        if (onTape + FEED > TAPE_MOST) {
            return NONE;
        }
        layFour(a);
        layFour(b);
        layFour(c);
        layFour(d);
        layFour(e);
        return onTape;
    }

    private void layFour(int four) {
        for (int shift = 24; shift >= 0 && onTape < TAPE_MOST; shift -= 8) {
            tape[onTape] = (four >>> shift) & 255;
            onTape++;
        }
    }

    public int end(int n) {
        if (!within(n, 0, onTape)) {
            return NONE;
        }
        onTape = n;
        return n;
    }

    public int road() {
        if (!reader.read(tape, onTape)) {
            return NONE;
        }
        onTape = 0;
        told.becomes(reader.draft);
        prices.forget();
        stand.asTold(told);
        acts.forget();
        sights.forget();
        lyingThere = 0;
        for (int i = 0; i < BOXES; i++) {
            boxes[i].carts = NONE;
        }
        day.workOut();
        return stand.carts;
    }

    public int fault(int what) {
        switch (what) {
            case 0:
                return reader.fault;
            case 1:
                return reader.faultPlace;
            default:
                return NONE;
        }
    }

    public int cart(int cart, int what) {
        if (!isCart(cart)) {
            return NONE;
        }
        switch (what) {
            case 0:
                return stand.minute[cart];
            case 1:
                return stand.sacks[cart];
            case 2:
                return has(stand.comes, cart) ? 1 : 0;
            case 3:
                return has(told.maybe, cart) ? 1 : 0;
            case 4:
                return day.paidBy(cart);
            default:
                return NONE;
        }
    }

    public int counter(int cart, int post) {
        return isCart(cart) && isPost(post) ? day.counter[cart * POSTS_MOST + post] : NO_SUCH;
    }

    public int pays(int cart, int post) {
        return isCart(cart) && isPost(post) ? day.paid[cart * POSTS_MOST + post] : NONE;
    }

    public int bird(int bird, int what) {
        if (!isBird(bird)) {
            return NONE;
        }
        switch (what) {
            case 0:
                return stand.counts[bird];
            case 1:
                return told.seatOf[bird];
            case 2:
                return day.watch.count[bird];
            case 3:
                return day.watch.total[bird];
            default:
                return NONE;
        }
    }

    public int income(int post) {
        if (post == NONE) {
            return day.takenInAll();
        }
        return isPost(post) ? day.takenAt(post) : NO_SUCH;
    }

    public int come(int minute, int sacks) {
        if (!within(minute, 0, MINUTE_MOST) || !within(sacks, 1, SACKS_MOST) || stand.carts >= CARTS_MOST) {
            return NONE;
        }
        act(Acts.COME, minute, sacks);
        return stand.carts - 1;
    }

    public int doubt(int cart) {
        if (!isCart(cart) || !has(told.maybe, cart)) {
            return NONE;
        }
        act(Acts.DOUBT, cart, 0);
        return has(stand.comes, cart) ? 1 : 0;
    }

    public int learn(int bird, int by) {
        if (!isBird(bird) || !within(by, -FURTHER_MOST, FURTHER_MOST)
                || !within(stand.counts[bird] + by, 1, COUNTS_MOST)) {
            return NONE;
        }
        act(Acts.LEARN, bird, by);
        return stand.counts[bird];
    }

    private void act(int kind, int first, int second) {
        acts.keep(kind, first, second);
        acts.carryOut(acts.done - 1, stand);
        day.workOut();
    }

    public boolean undo() {
        if (!acts.takeBackLatest(stand)) {
            return false;
        }
        day.workOut();
        return true;
    }

    public boolean redo() {
        if (!acts.doAgain(stand)) {
            return false;
        }
        day.workOut();
        return true;
    }

    public int party(int n, int sacks, int minute, int w, int late) {
        lyingThere = 0;
        if (!within(n, 1, PARTY_MOST) || !within(sacks, 1, SACKS_MOST) || !within(minute, 0, MINUTE_MOST)
                || !within(w, 0, WINDOW_MOST) || !within(late, 0, LATE_MOST) || stand.carts + n > CARTS_MOST) {
            return NONE;
        }
        int least = drivers.leastOfParty(n, sacks, minute, w, late);
        layThere(drivers.chosen, n);
        return least;
    }

    public int heaps(int sacks, int minute, int what) {
        if (!within(sacks, 1, SACKS_MOST) || !within(minute, 0, MINUTE_MOST) || !within(what, 0, 1)
                || stand.carts + HEAPS_MOST > CARTS_MOST) {
            return NONE;
        }
        int heaps = drivers.bestHeaps(sacks, minute);
        return what == 0 ? heaps : drivers.heapsPay;
    }

    public int rest() {
        lyingThere = 0;
        int turns = drivers.turnsTillRest();
        if (turns != NONE) {
            layThere(drivers.later, stand.carts);
        }
        return turns;
    }

    public int teach(int so) {
        lyingThere = 0;
        if (!within(so, 0, TEACH_MOST)) {
            return NONE;
        }
        int most = keepers.mostByTeaching(so);
        if (most != NONE) {
            layThere(keepers.best, told.birds);
        }
        return most;
    }

    public int seats() {
        lyingThere = 0;
        if (told.posts == 0) {
            return NONE;
        }
        int most = keepers.mostBySeats();
        layThere(keepers.best, told.birds);
        return most;
    }

    public int lies(int i) {
        return within(i, 0, lyingThere - 1) ? lying[i] : NONE;
    }

    public int sight(int minute, int bird, int count) {
        if (!within(minute, 0, SIGHT_MINUTE_MOST) || !isBird(bird) || !within(count, 0, COUNTS_MOST)
                || sights.size >= SIGHTS_MOST) {
            return NONE;
        }
        return sights.tell(minute, bird, count);
    }

    public boolean untell(int sight) {
        return sights.takeBack(sight);
    }

    public int later(int by) {
        if (!within(by, 0, LATER_MOST) || sights.time + by > TIME_MOST) {
            return NONE;
        }
        sights.time += by;
        return sights.time;
    }

    public int came(int what, int k) {
        if (!within(what, 0, 2)) {
            return NONE;
        }
        sights.findSets(k);
        if (what == 0) {
            return sights.sets;
        }
        if (sights.sets == 0) {
            return 0;
        }
        return what == 1 ? sights.inAll : sights.inNone();
    }

    public int image(int box) {
        if (!within(box, 0, BOXES - 1)) {
            return NONE;
        }
        boxes[box].becomes(stand);
        return stand.carts;
    }

    public int back(int box) {
        if (!within(box, 0, BOXES - 1) || boxes[box].carts == NONE) {
            return NONE;
        }
        stand.becomes(boxes[box]);
        acts.forget();
        day.workOut();
        return stand.carts;
    }

    public int about(int what) {
        switch (what) {
            case 0:
                return told.birds;
            case 1:
                return told.posts;
            case 2:
                return stand.carts;
            case 3:
                return acts.done;
            case 4:
                return acts.kept - acts.done;
            case 5:
                return sights.size;
            case 6:
                return sights.time;
            case 7:
                return onTape;
            case 8:
                return told.law.units;
            case 9:
                return lyingThere;
            default:
                return NONE;
        }
    }

    private void layThere(int[] numbers, int n) {
        lyingThere = Math.min(n, Math.min(lying.length, numbers.length));
        System.arraycopy(numbers, 0, lying, 0, lyingThere);
    }

    private boolean isCart(int cart) {
        return within(cart, 0, stand.carts - 1);
    }

    private boolean isPost(int post) {
        return within(post, 0, told.posts - 1);
    }

    private boolean isBird(int bird) {
        return within(bird, 0, told.birds - 1);
    }

    private static boolean within(int number, int least, int most) {
        return number >= least && number <= most;
    }

    private static boolean has(int bits, int i) {
        return (bits >> i & 1) != 0;
    }

    /** Puts the first n CARTS of the row by their MINUTES; those of one MINUTE keep their order. */
    private static void putByMinutes(int[] row, int n, int[] minute) {
        for (int i = 1; i < n; i++) {
            int cart = row[i];
            int j = i;
            while (j > 0 && minute[row[j - 1]] > minute[cart]) {
                row[j] = row[j - 1];
                j--;
            }
            row[j] = cart;
        }
    }

    /** Writes a number with n digits of a base into the row, the first counts most: the numbers in turn give the rows in turn. */
    private static void spread(int number, int base, int n, int[] row) {
        int left = number;
        for (int i = n - 1; i >= 0 && base > 0; i--) {
            row[i] = left % base;
            left /= base;
        }
    }

    private static int power(int base, int n) {
        int power = 1;
        for (int i = 0; i < n; i++) {
            power *= base;
        }
        return power;
    }

    /** A ROAD as it is told. */
    private static final class Road {
        final long[] birdName = new long[BIRDS_MOST];
        final int[] counts = new int[BIRDS_MOST];
        final int[] gap = new int[BIRDS_MOST];
        final int[] takes = new int[BIRDS_MOST];
        final int[] seatOf = new int[BIRDS_MOST];
        int birds;
        final long[] postName = new long[POSTS_MOST];
        final int[] at = new int[POSTS_MOST];
        final int[] toll = new int[POSTS_MOST];
        final int[] seat = new int[POSTS_MOST * BIRDS_MOST];
        final int[] seated = new int[POSTS_MOST];
        int posts;
        final long[] cartName = new long[TOLD_MOST];
        final int[] minute = new int[TOLD_MOST];
        final int[] sacks = new int[TOLD_MOST];
        /** As bits by their numbers. */
        int maybe;
        int carts;
        final Law law = new Law();

        void clear() {
            birds = 0;
            posts = 0;
            carts = 0;
            maybe = 0;
            Arrays.fill(seatOf, NONE);
            Arrays.fill(seated, 0);
            law.clear();
        }

        /** Names are left out: nobody asks for them once the ROAD is read. */
        void becomes(Road other) {
            birds = other.birds;
            posts = other.posts;
            carts = other.carts;
            maybe = other.maybe;
            System.arraycopy(other.counts, 0, counts, 0, BIRDS_MOST);
            System.arraycopy(other.gap, 0, gap, 0, BIRDS_MOST);
            System.arraycopy(other.takes, 0, takes, 0, BIRDS_MOST);
            System.arraycopy(other.seatOf, 0, seatOf, 0, BIRDS_MOST);
            System.arraycopy(other.at, 0, at, 0, POSTS_MOST);
            System.arraycopy(other.toll, 0, toll, 0, POSTS_MOST);
            System.arraycopy(other.seat, 0, seat, 0, POSTS_MOST * BIRDS_MOST);
            System.arraycopy(other.seated, 0, seated, 0, POSTS_MOST);
            System.arraycopy(other.minute, 0, minute, 0, TOLD_MOST);
            System.arraycopy(other.sacks, 0, sacks, 0, TOLD_MOST);
            law.becomes(other.law);
        }

        static int find(long[] names, int n, long name) {
            for (int i = 0; i < n; i++) {
                if (names[i] == name) {
                    return i;
                }
            }
            return NONE;
        }
    }

    /** The law, as steps on a stack: a number from 0 on is put there, a step below 0 is one of these. */
    private static final class Law {
        static final int NO_STEP = 0;
        static final int OR = -1;
        static final int AND = -2;
        static final int LESS = -3;
        static final int MORE = -4;
        static final int SAME = -5;
        static final int PLUS = -6;
        static final int MINUS = -7;
        static final int TIMES = -8;
        static final int OVER = -9;
        static final int LEFT_OVER = -10;
        static final int NOT = -11;
        static final int SACKS = -12;
        static final int TOLL = -13;
        static final int NTH = -14;

        /** 30 units, 29 steps that join them, 7 times not ahead of each at most. */
        static final int STEPS_MOST = UNITS_MOST * (WITHIN_MOST + 4);

        final int[] step = new int[STEPS_MOST];
        int steps;
        int units;
        boolean isTold;
        final int[] stack = new int[UNITS_MOST];

        void clear() {
            steps = 0;
            units = 0;
            isTold = false;
        }

        void becomes(Law other) {
            steps = other.steps;
            units = other.units;
            isTold = other.isTold;
            System.arraycopy(other.step, 0, step, 0, other.steps);
        }

        void put(int next) {
            if (steps < STEPS_MOST) {
                step[steps] = next;
                steps++;
            }
        }

        int pay(int sacks, int toll, int nth) {
            if (!isTold) {
                return toll;
            }
            int top = 0;
            for (int i = 0; i < steps; i++) {
                int now = step[i];
                if (now >= 0 || now <= SACKS) {
                    if (top < UNITS_MOST) {
                        stack[top] = now >= 0 ? now : now == SACKS ? sacks : now == TOLL ? toll : nth;
                        top++;
                    }
                } else if (now == NOT) {
                    if (top >= 1) {
                        stack[top - 1] = stack[top - 1] == 0 ? 1 : 0;
                    }
                } else if (top >= 2) {
                    top--;
                    stack[top - 1] = joined(now, stack[top - 1], stack[top]);
                }
            }
            return top >= 1 ? Math.max(0, Math.min(PAY_MOST, stack[0])) : 0;
        }

        private static int joined(int how, int a, int b) {
            switch (how) {
                case OR:
                    return a != 0 || b != 0 ? 1 : 0;
                case AND:
                    return a != 0 && b != 0 ? 1 : 0;
                case LESS:
                    return a < b ? 1 : 0;
                case MORE:
                    return a > b ? 1 : 0;
                case SAME:
                    return a == b ? 1 : 0;
                case PLUS:
                    return a + b;
                case MINUS:
                    return a - b;
                case TIMES:
                    return a * b;
                case OVER:
                    return b == 0 ? 0 : a / b;
                case LEFT_OVER:
                    return b == 0 ? 0 : a % b;
                default:
                    return 0;
            }
        }
    }

    /** Reads the TAPE into a draft of a ROAD, TOKEN by TOKEN; the first FAULT ends it, so that it is the first by its place. */
    private static final class Reader {
        static final int AT_END = 0;
        static final int WORD = 1;
        static final int NUMBER = 2;
        static final int SIGN = 3;
        static final int NO_TOKEN = 4;

        static final String SIGNS = ";()<>=+-*/%";
        static final int LETTERS_MOST = 8;
        static final int DIGITS_MOST = 4;

        static final int FAULT_TOKEN = 1;
        static final int FAULT_PLACE = 2;
        static final int FAULT_TWICE = 3;
        static final int FAULT_NUMBER = 4;
        static final int FAULT_NO_BIRD = 5;

        static final int LEVEL_OR = 0;
        static final int LEVEL_AND = 1;
        static final int LEVEL_ONE = 2;
        static final int LEVEL_SUM = 3;
        static final int LEVEL_TERM = 4;
        static final int LEVEL_UNIT = 5;

        final Road draft = new Road();
        int fault;
        int faultPlace = NONE;
        private int[] text = new int[0];
        private int length;
        private int at;
        private int kind;
        private int place;
        private int size;
        private int number;
        private int sign;
        private long name;

        boolean read(int[] tape, int n) {
            text = tape;
            length = Math.min(n, tape.length);
            at = 0;
            fault = 0;
            faultPlace = NONE;
            draft.clear();
            next();
            boolean good = true;
            for (int lines = 0; lines <= length && good && kind != AT_END; lines++) {
                if (is("bird")) {
                    good = readBird();
                } else if (is("post")) {
                    good = readPost();
                } else if (is("cart")) {
                    good = readCart();
                } else if (is("law")) {
                    good = readLaw();
                } else {
                    good = wrongHere();
                }
            }
            return good;
        }

        private boolean readBird() {
            int bird = draft.birds;
            if (bird >= BIRDS_MOST) {
                return wrongHere();
            }
            next();
            if (!newName(draft.birdName, bird) || !word("counts") || !numberIn(1, COUNTS_MOST, draft.counts, bird)
                    || !word("gap") || !numberIn(1, 99, draft.gap, bird)) {
                return false;
            }
            draft.takes[bird] = 0;
            if (is("takes")) {
                next();
                if (!numberIn(0, 9, draft.takes, bird)) {
                    return false;
                }
            }
            draft.birds++;
            return sign(';');
        }

        private boolean readPost() {
            int post = draft.posts;
            if (post >= POSTS_MOST) {
                return wrongHere();
            }
            next();
            if (!newName(draft.postName, post) || !word("at") || !numberIn(0, 99, draft.at, post)
                    || !word("toll") || !numberIn(0, 99, draft.toll, post)) {
                return false;
            }
            for (int i = 0; i <= BIRDS_MOST && isName(); i++) {
                int bird = Road.find(draft.birdName, draft.birds, name);
                if (bird == NONE) {
                    return wrong(FAULT_NO_BIRD);
                }
                if (draft.seatOf[bird] != NONE || draft.seated[post] >= BIRDS_MOST) {
                    return wrong(FAULT_TWICE);
                }
                draft.seatOf[bird] = post;
                draft.seat[post * BIRDS_MOST + draft.seated[post]] = bird;
                draft.seated[post]++;
                next();
            }
            draft.posts++;
            return sign(';');
        }

        private boolean readCart() {
            int cart = draft.carts;
            if (cart >= TOLD_MOST) {
                return wrongHere();
            }
            next();
            if (!newName(draft.cartName, cart) || !word("at") || !numberIn(0, MINUTE_MOST, draft.minute, cart)
                    || !word("sacks") || !numberIn(1, SACKS_MOST, draft.sacks, cart)) {
                return false;
            }
            if (is("maybe")) {
                draft.maybe |= 1 << cart;
                next();
            }
            draft.carts++;
            return sign(';');
        }

        private boolean readLaw() {
            if (draft.law.isTold) {
                return wrongHere();
            }
            draft.law.isTold = true;
            next();
            return formula(LEVEL_OR, 0) && sign(';');
        }

        /** A formula of a level joins formulas of the next one; depth: within how many ( e ) and ones behind not it is. */
        private boolean formula(int level, int depth) {
            if (level >= LEVEL_UNIT) {
                return unit(depth);
            }
            if (level == LEVEL_ONE && is("not")) {
                return notOne(depth);
            }
            if (!formula(level + 1, depth)) {
                return false;
            }
            int most = level == LEVEL_ONE ? 1 : UNITS_MOST;
            for (int i = 0; i < most; i++) {
                int step = joins(level);
                if (step == Law.NO_STEP) {
                    return true;
                }
                next();
                if (!formula(level + 1, depth)) {
                    return false;
                }
                draft.law.put(step);
            }
            return true;
        }

        private boolean notOne(int depth) {
            if (depth > WITHIN_MOST) {
                return wrongHere();
            }
            next();
            if (!formula(LEVEL_ONE, depth + 1)) {
                return false;
            }
            draft.law.put(Law.NOT);
            return true;
        }

        private boolean unit(int depth) {
            Law law = draft.law;
            if (law.units >= UNITS_MOST) {
                return wrongHere();
            }
            if (kind == SIGN && sign == '(' && depth <= WITHIN_MOST) {
                law.units++;
                next();
                return formula(LEVEL_OR, depth + 1) && sign(')');
            }
            if (kind == NUMBER) {
                law.put(number);
            } else if (is("sacks")) {
                law.put(Law.SACKS);
            } else if (is("toll")) {
                law.put(Law.TOLL);
            } else if (is("nth")) {
                law.put(Law.NTH);
            } else {
                return wrongHere();
            }
            law.units++;
            next();
            return true;
        }

        /** The step by which the TOKEN here joins two formulas of a level's kind, if it does. */
        private int joins(int level) {
            if (kind == WORD) {
                return level == LEVEL_OR && is("or") ? Law.OR
                        : level == LEVEL_AND && is("and") ? Law.AND : Law.NO_STEP;
            }
            if (kind != SIGN) {
                return Law.NO_STEP;
            }
            switch (level) {
                case LEVEL_ONE:
                    return sign == '<' ? Law.LESS : sign == '>' ? Law.MORE : sign == '=' ? Law.SAME : Law.NO_STEP;
                case LEVEL_SUM:
                    return sign == '+' ? Law.PLUS : sign == '-' ? Law.MINUS : Law.NO_STEP;
                case LEVEL_TERM:
                    return sign == '*' ? Law.TIMES : sign == '/' ? Law.OVER : sign == '%' ? Law.LEFT_OVER : Law.NO_STEP;
                default:
                    return Law.NO_STEP;
            }
        }

        private boolean newName(long[] names, int n) {
            if (!isName()) {
                return wrongHere();
            }
            if (Road.find(names, n, name) != NONE) {
                return wrong(FAULT_TWICE);
            }
            names[n] = name;
            next();
            return true;
        }

        private boolean word(String due) {
            if (!is(due)) {
                return wrongHere();
            }
            next();
            return true;
        }

        private boolean sign(int due) {
            if (kind != SIGN || sign != due) {
                return wrongHere();
            }
            next();
            return true;
        }

        private boolean numberIn(int least, int most, int[] row, int i) {
            if (kind != NUMBER) {
                return wrongHere();
            }
            if (!within(number, least, most)) {
                return wrong(FAULT_NUMBER);
            }
            row[i] = number;
            next();
            return true;
        }

        private boolean wrongHere() {
            return wrong(kind == NO_TOKEN ? FAULT_TOKEN : FAULT_PLACE);
        }

        private boolean wrong(int which) {
            fault = which;
            faultPlace = place;
            return false;
        }

        private boolean isName() {
            return kind == WORD && !standsForItself();
        }

        private boolean standsForItself() {
            return is("bird") || is("counts") || is("gap") || is("takes") || is("post") || is("at") || is("toll")
                    || is("cart") || is("sacks") || is("maybe") || is("law") || is("or") || is("and") || is("not")
                    || is("nth");
        }

        private boolean is(String word) {
            if (kind != WORD || size != word.length()) {
                return false;
            }
            for (int i = 0; i < size; i++) {
                if (text[place + i] != word.charAt(i)) {
                    return false;
                }
            }
            return true;
        }

        private void next() {
            while (at < length && (text[at] == ' ' || text[at] == '\n')) {
                at++;
            }
            place = at;
            if (at >= length) {
                kind = AT_END;
            } else if (text[at] >= 'a' && text[at] <= 'z') {
                readWord();
            } else if (text[at] >= '0' && text[at] <= '9') {
                readNumber();
            } else {
                sign = text[at];
                kind = SIGNS.indexOf((char) sign) >= 0 ? SIGN : NO_TOKEN;
                at++;
            }
        }

        private void readWord() {
            name = 0;
            while (at < length && text[at] >= 'a' && text[at] <= 'z') {
                name = name * 32 + (text[at] - 'a' + 1);
                at++;
            }
            size = at - place;
            kind = size <= LETTERS_MOST ? WORD : NO_TOKEN;
        }

        private void readNumber() {
            number = 0;
            while (at < length && text[at] >= '0' && text[at] <= '9') {
                number = number * 10 + (text[at] - '0');
                at++;
            }
            boolean letterBehind = at < length && text[at] >= 'a' && text[at] <= 'z';
            kind = at - place <= DIGITS_MOST && !letterBehind ? NUMBER : NO_TOKEN;
        }
    }

    /** CARTS in earnest, and how far BIRDS count; a BOX keeps one, with NONE carts while it is empty. */
    private static final class Stand {
        final int[] minute = new int[CARTS_MOST];
        final int[] sacks = new int[CARTS_MOST];
        /** As bits by their numbers. */
        int comes;
        final int[] counts = new int[BIRDS_MOST];
        int carts;

        void asTold(Road road) {
            carts = 0;
            for (int i = 0; i < road.carts; i++) {
                add(road.minute[i], road.sacks[i]);
            }
            comes = ~road.maybe;
            System.arraycopy(road.counts, 0, counts, 0, BIRDS_MOST);
        }

        void becomes(Stand other) {
            System.arraycopy(other.minute, 0, minute, 0, CARTS_MOST);
            System.arraycopy(other.sacks, 0, sacks, 0, CARTS_MOST);
            comes = other.comes;
            System.arraycopy(other.counts, 0, counts, 0, BIRDS_MOST);
            carts = other.carts;
        }

        /** One more that comes for sure: only told ones are maybe, so its bit stands as asTold left it. */
        void add(int itsMinute, int itsSacks) {
            if (carts < CARTS_MOST) {
                minute[carts] = itsMinute;
                sacks[carts] = itsSacks;
                carts++;
            }
        }

        void takeLast() {
            if (carts > 0) {
                carts--;
            }
        }

        /** Puts the CARTS that come into the row, by number: how many. */
        int coming(int[] row) {
            int n = 0;
            for (int i = 0; i < carts; i++) {
                if (has(comes, i)) {
                    row[n] = i;
                    n++;
                }
            }
            return n;
        }
    }

    /** ACTS that are kept: the done ones, behind them those taken back. */
    private static final class Acts {
        static final int COME = 0;
        static final int DOUBT = 1;
        static final int LEARN = 2;

        final int[] kind = new int[ACTS_MOST];
        final int[] first = new int[ACTS_MOST];
        final int[] second = new int[ACTS_MOST];
        int done;
        int kept;

        void forget() {
            done = 0;
            kept = 0;
        }

        void keep(int itsKind, int itsFirst, int itsSecond) {
            if (done >= ACTS_MOST) {
                done = ACTS_MOST - 1;
                System.arraycopy(kind, 1, kind, 0, done);
                System.arraycopy(first, 1, first, 0, done);
                System.arraycopy(second, 1, second, 0, done);
            }
            kind[done] = itsKind;
            first[done] = itsFirst;
            second[done] = itsSecond;
            done++;
            kept = done;
        }

        boolean takeBackLatest(Stand stand) {
            if (done <= 0) {
                return false;
            }
            done--;
            takeBack(done, stand);
            return true;
        }

        boolean doAgain(Stand stand) {
            if (done >= kept) {
                return false;
            }
            carryOut(done, stand);
            done++;
            return true;
        }

        void carryOut(int i, Stand stand) {
            if (kind[i] == COME) {
                stand.add(first[i], second[i]);
            } else if (kind[i] == DOUBT) {
                stand.comes ^= 1 << first[i];
            } else {
                stand.counts[first[i]] += second[i];
            }
        }

        private void takeBack(int i, Stand stand) {
            if (kind[i] == COME) {
                stand.takeLast();
            } else if (kind[i] == DOUBT) {
                stand.comes ^= 1 << first[i];
            } else {
                stand.counts[first[i]] -= second[i];
            }
        }
    }

    /** BIRDS at their POSTS as they look at CARTS. */
    private static final class Watch {
        /** What save keeps of the BIRDS: so many numbers. */
        static final int SAVED = 3 * BIRDS_MOST;

        final Road road;
        final int[] limit = new int[BIRDS_MOST];
        final int[] seat = new int[POSTS_MOST * BIRDS_MOST];
        final int[] seated = new int[POSTS_MOST];
        final int[] count = new int[BIRDS_MOST];
        final int[] total = new int[BIRDS_MOST];
        private final int[] lookedAt = new int[BIRDS_MOST];
        private final int[] countedAt = new int[BIRDS_MOST];

        Watch(Road road) {
            this.road = road;
        }

        /** The BIRDS sit as told, count so far, and the DAY begins. */
        void sit(int[] counts) {
            System.arraycopy(counts, 0, limit, 0, BIRDS_MOST);
            System.arraycopy(road.seat, 0, seat, 0, POSTS_MOST * BIRDS_MOST);
            System.arraycopy(road.seated, 0, seated, 0, POSTS_MOST);
            begin();
        }

        /** BIRDS of a set (as bits) sit at a POST, by number. */
        void seatSet(int post, int set) {
            seated[post] = 0;
            for (int bird = 0; bird < BIRDS_MOST; bird++) {
                if (has(set, bird)) {
                    seat[post * BIRDS_MOST + seated[post]] = bird;
                    seated[post]++;
                }
            }
        }

        void begin() {
            Arrays.fill(count, 0);
            Arrays.fill(total, 0);
            Arrays.fill(lookedAt, 0);
            Arrays.fill(countedAt, NONE);
        }

        /** A CART comes by a POST at a MINUTE: the BIRD that COUNTS it, or NONE. */
        int look(int post, int now) {
            for (int i = 0; i < seated[post]; i++) {
                int bird = seat[post * BIRDS_MOST + i];
                if (countedAt[bird] != NONE && now - lookedAt[bird] > road.gap[bird]) {
                    count[bird] = 0;
                    countedAt[bird] = NONE;
                }
                lookedAt[bird] = now;
                if (countedAt[bird] != NONE && now - countedAt[bird] <= road.takes[bird]) {
                    return NONE;
                }
                if (count[bird] < limit[bird]) {
                    count[bird]++;
                    total[bird]++;
                    countedAt[bird] = now;
                    return bird;
                }
            }
            return NONE;
        }

        void save(int[] rows, int row) {
            int from = row * SAVED;
            if (from >= 0 && from + SAVED <= rows.length) {
                System.arraycopy(count, 0, rows, from, BIRDS_MOST);
                System.arraycopy(lookedAt, 0, rows, from + BIRDS_MOST, BIRDS_MOST);
                System.arraycopy(countedAt, 0, rows, from + 2 * BIRDS_MOST, BIRDS_MOST);
            }
        }

        void load(int[] rows, int row) {
            int from = row * SAVED;
            if (from >= 0 && from + SAVED <= rows.length) {
                System.arraycopy(rows, from, count, 0, BIRDS_MOST);
                System.arraycopy(rows, from + BIRDS_MOST, lookedAt, 0, BIRDS_MOST);
                System.arraycopy(rows, from + 2 * BIRDS_MOST, countedAt, 0, BIRDS_MOST);
            }
        }
    }

    /** What the law asks, kept for each POST and nth with the sacks last asked for: REST asks the same thousands of times. */
    private static final class Prices {
        private final Road road;
        private final int[] sacksKnown = new int[POSTS_MOST * COUNTS_MOST];
        private final int[] known = new int[POSTS_MOST * COUNTS_MOST];

        Prices(Road road) {
            this.road = road;
        }

        void forget() {
            Arrays.fill(sacksKnown, 0);
        }

        int of(int post, int sacks, int nth) {
            int i = post * COUNTS_MOST + nth - 1;
            if (i < 0 || i >= known.length) {
                return 0;
            }
            if (sacksKnown[i] != sacks) {
                sacksKnown[i] = sacks;
                known[i] = road.law.pay(sacks, road.toll[post], nth);
            }
            return known[i];
        }
    }

    /** The DAY in earnest, worked out anew whenever CARTS or BIRDS change. */
    private static final class Day {
        private final Road road;
        private final Stand stand;
        private final Prices prices;
        final Watch watch;
        final int[] counter = new int[CARTS_MOST * POSTS_MOST];
        final int[] paid = new int[CARTS_MOST * POSTS_MOST];
        private final int[] order = new int[CARTS_MOST];

        Day(Road road, Stand stand, Prices prices) {
            this.road = road;
            this.stand = stand;
            this.prices = prices;
            watch = new Watch(road);
            Arrays.fill(counter, NONE);
        }

        void workOut() {
            int going = stand.coming(order);
            putByMinutes(order, going, stand.minute);
            Arrays.fill(counter, NONE);
            Arrays.fill(paid, 0);
            watch.sit(stand.counts);
            for (int post = 0; post < road.posts; post++) {
                for (int i = 0; i < going; i++) {
                    int cart = order[i];
                    int bird = watch.look(post, stand.minute[cart] + road.at[post]);
                    if (bird != NONE) {
                        counter[cart * POSTS_MOST + post] = bird;
                        paid[cart * POSTS_MOST + post] = prices.of(post, stand.sacks[cart], watch.count[bird]);
                    }
                }
            }
        }

        int paidBy(int cart) {
            int sum = 0;
            for (int post = 0; post < road.posts; post++) {
                sum += paid[cart * POSTS_MOST + post];
            }
            return sum;
        }

        int takenAt(int post) {
            int sum = 0;
            for (int cart = 0; cart < stand.carts; cart++) {
                sum += paid[cart * POSTS_MOST + post];
            }
            return sum;
        }

        int takenInAll() {
            int sum = 0;
            for (int post = 0; post < road.posts; post++) {
                sum += takenAt(post);
            }
            return sum;
        }
    }

    /** What is best for those who pay: PARTY, HEAPS, REST. */
    private static final class Drivers {
        private final Road road;
        private final Stand stand;
        private final Prices prices;
        private final Watch watch;
        private final int[] order = new int[CARTS_MOST];
        private int going;
        private final int[] who = new int[CARTS_MOST];
        private final int[] when = new int[CARTS_MOST];

        final int[] chosen = new int[PARTY_MOST];
        final int[] later = new int[CARTS_MOST];
        int heapsPay;

        Drivers(Road road, Stand stand, Prices prices) {
            this.road = road;
            this.stand = stand;
            this.prices = prices;
            watch = new Watch(road);
        }

        /**
         * Who sets out in one MINUTE with the CART just ahead of it PAYS nothing: where that one is COUNTED, it is taken for that one,
         * and where that one is FREE, so is it. Nor do those behind change what the first one PAYS. So, whenever the first sets out,
         * no way is better than all together with it, and no like one is ahead of that.
         */
        int leastOfParty(int n, int sacks, int minute, int w, int late) {
            putInOrder();
            int least = 0;
            for (int by = 0; by <= w; by++) {
                int sum = payOfOneMore(sacks, minute + by) + n * late * by;
                if (by == 0 || sum < least) {
                    least = sum;
                    Arrays.fill(chosen, by);
                }
            }
            return least;
        }

        /** As in a party only the first one PAYS, and it has a sack more if they can't be shared out evenly. */
        int bestHeaps(int sacks, int minute) {
            putInOrder();
            int best = 0;
            for (int m = 1; m <= HEAPS_MOST && m <= sacks; m++) {
                int sum = payOfOneMore((sacks + m - 1) / m, minute);
                if (best == 0 || sum < heapsPay) {
                    heapsPay = sum;
                    best = m;
                }
            }
            return best;
        }

        private void putInOrder() {
            going = stand.coming(order);
            putByMinutes(order, going, stand.minute);
            watch.sit(stand.counts);
        }

        /** What a CART more PAYS, behind all that set out till its MINUTE. */
        private int payOfOneMore(int sacks, int minute) {
            watch.begin();
            int sum = 0;
            for (int post = 0; post < road.posts; post++) {
                for (int i = 0; i < going && stand.minute[order[i]] <= minute; i++) {
                    watch.look(post, stand.minute[order[i]] + road.at[post]);
                }
                int bird = watch.look(post, minute + road.at[post]);
                if (bird != NONE) {
                    sum += prices.of(post, sacks, watch.count[bird]);
                }
            }
            return sum;
        }

        int turnsTillRest() {
            going = stand.coming(who);
            if (going > REST_CARTS_MOST) {
                return NONE;
            }
            Arrays.fill(later, 0);
            System.arraycopy(stand.minute, 0, when, 0, CARTS_MOST);
            watch.sit(stand.counts);
            for (int turn = 1; turn <= REST_TURNS_MOST; turn++) {
                if (!turnOfAll()) {
                    return turn;
                }
            }
            return NONE;
        }

        /** Each takes his MINUTE in turn: whether one changed. */
        private boolean turnOfAll() {
            boolean changed = false;
            for (int i = 0; i < going; i++) {
                int cart = who[i];
                int best = bestLater(cart);
                changed = changed || best != later[cart];
                later[cart] = best;
                when[cart] = stand.minute[cart] + best;
            }
            return changed;
        }

        private int bestLater(int cart) {
            int best = 0;
            int least = 0;
            for (int by = 0; by <= REST_LATER_MOST; by++) {
                when[cart] = stand.minute[cart] + by;
                int sum = payOf(cart) + by;
                if (by == 0 || sum < least) {
                    least = sum;
                    best = by;
                }
            }
            return best;
        }

        /** What one CART PAYS in all while all set out as they do now. */
        private int payOf(int cart) {
            System.arraycopy(who, 0, order, 0, going);
            putByMinutes(order, going, when);
            watch.begin();
            int sum = 0;
            for (int post = 0; post < road.posts; post++) {
                boolean gone = watch.seated[post] == 0;
                for (int i = 0; i < going && !gone; i++) {
                    int bird = watch.look(post, when[order[i]] + road.at[post]);
                    gone = order[i] == cart;
                    if (gone && bird != NONE) {
                        sum += prices.of(post, stand.sacks[cart], watch.count[bird]);
                    }
                }
            }
            return sum;
        }
    }

    /** What is best for those who take: TEACH, SEATS. */
    private static final class Keepers {
        private static final int SETS = 1 << BIRDS_MOST;

        private final Road road;
        private final Stand stand;
        private final Prices prices;
        private final Watch watch;
        private final int[] order = new int[CARTS_MOST];
        private int going;
        private final int[] way = new int[BIRDS_MOST];
        private final int[] taken = new int[POSTS_MOST * SETS];

        final int[] best = new int[BIRDS_MOST];

        Keepers(Road road, Stand stand, Prices prices) {
            this.road = road;
            this.stand = stand;
            this.prices = prices;
            watch = new Watch(road);
        }

        int mostByTeaching(int so) {
            begin();
            int most = NONE;
            int ways = power(so + 1, road.birds);
            for (int i = 0; i < ways; i++) {
                spread(i, so + 1, road.birds, way);
                if (canTeach(so)) {
                    most = better(takenWhenTaught(), most);
                }
            }
            return most;
        }

        private boolean canTeach(int so) {
            int sum = 0;
            for (int bird = 0; bird < road.birds; bird++) {
                sum += way[bird];
                if (stand.counts[bird] + way[bird] > COUNTS_MOST) {
                    return false;
                }
            }
            return sum == so;
        }

        private int takenWhenTaught() {
            for (int bird = 0; bird < road.birds; bird++) {
                watch.limit[bird] = stand.counts[bird] + way[bird];
            }
            watch.begin();
            int sum = 0;
            for (int post = 0; post < road.posts; post++) {
                sum += takenAt(post);
            }
            return sum;
        }

        /** POSTS do not touch one another: it is enough to know what each takes by each set of BIRDS. */
        int mostBySeats() {
            begin();
            int sets = 1 << road.birds;
            for (int post = 0; post < road.posts; post++) {
                for (int set = 0; set < sets; set++) {
                    watch.seatSet(post, set);
                    watch.begin();
                    taken[post * SETS + set] = takenAt(post);
                }
            }
            int most = NONE;
            int ways = power(road.posts, road.birds);
            for (int i = 0; i < ways; i++) {
                spread(i, road.posts, road.birds, way);
                most = better(takenBySeats(), most);
            }
            return most;
        }

        private int takenBySeats() {
            int sum = 0;
            for (int post = 0; post < road.posts; post++) {
                int set = 0;
                for (int bird = 0; bird < road.birds; bird++) {
                    set |= way[bird] == post ? 1 << bird : 0;
                }
                sum += taken[post * SETS + set];
            }
            return sum;
        }

        private void begin() {
            going = stand.coming(order);
            putByMinutes(order, going, stand.minute);
            watch.sit(stand.counts);
        }

        /** Keeps the way if it takes in more than the most so far: the most then. */
        private int better(int sum, int most) {
            if (sum <= most) {
                return most;
            }
            System.arraycopy(way, 0, best, 0, BIRDS_MOST);
            return sum;
        }

        private int takenAt(int post) {
            int sum = 0;
            for (int i = 0; i < going; i++) {
                int cart = order[i];
                int bird = watch.look(post, stand.minute[cart] + road.at[post]);
                if (bird != NONE) {
                    sum += prices.of(post, stand.sacks[cart], watch.count[bird]);
                }
            }
            return sum;
        }
    }

    /** SIGHTS, and the sets of maybe CARTS that they leave. */
    private static final class Sights {
        private final Road road;
        private final Watch watch;
        private final int[] minute = new int[SIGHTS_MOST];
        private final int[] bird = new int[SIGHTS_MOST];
        private final int[] count = new int[SIGHTS_MOST];
        private final int[] toldAt = new int[SIGHTS_MOST];
        private final int[] untoldAt = new int[SIGHTS_MOST];
        int size;
        int time;

        private final int[] order = new int[TOLD_MOST];
        private final int[] saved = new int[TOLD_MOST * Watch.SAVED];
        /** POSTS with a BIRD of a SIGHT that counts, as bits. */
        private int watched;
        /** Behind how many CARTS of the order a SIGHT is due; NONE for those that do not count. */
        private final int[] due = new int[SIGHTS_MOST];
        int sets;
        int inAll;
        private int inSome;

        Sights(Road road) {
            this.road = road;
            watch = new Watch(road);
        }

        void forget() {
            size = 0;
        }

        int tell(int itsMinute, int itsBird, int itsCount) {
            minute[size] = itsMinute;
            bird[size] = itsBird;
            count[size] = itsCount;
            toldAt[size] = time;
            untoldAt[size] = NONE;
            size++;
            return size - 1;
        }

        boolean takeBack(int sight) {
            if (!within(sight, 0, size - 1) || untoldAt[sight] != NONE) {
                return false;
            }
            untoldAt[sight] = time;
            return true;
        }

        void findSets(int k) {
            for (int i = 0; i < road.carts; i++) {
                order[i] = i;
            }
            putByMinutes(order, road.carts, road.minute);
            watched = 0;
            for (int i = 0; i < size; i++) {
                boolean counts = toldAt[i] <= k && (untoldAt[i] == NONE || untoldAt[i] > k);
                due[i] = counts ? cartsTill(i) : NONE;
            }
            watch.sit(road.counts);
            sets = 0;
            inAll = ~0;
            inSome = 0;
            goOn(0, 0);
        }

        /** How many of all told CARTS would have come by a SIGHT's BIRD till then; its POST is watched from now on. */
        private int cartsTill(int sight) {
            int post = road.seatOf[bird[sight]];
            if (post == NONE) {
                return 0;
            }
            watched |= 1 << post;
            int n = 0;
            while (n < road.carts && road.minute[order[n]] + road.at[post] <= minute[sight]) {
                n++;
            }
            return n;
        }

        /** The i-th CART by MINUTES and those behind it come or not, behind a set that came. */
        private void goOn(int i, int set) {
            if (!asSeen(i)) {
                return;
            }
            if (i >= road.carts) {
                sets++;
                inAll &= set;
                inSome |= set;
                return;
            }
            int cart = order[i];
            if (has(road.maybe, cart)) {
                watch.save(saved, i);
                goOn(i + 1, set);
                watch.load(saved, i);
            }
            comesBy(cart);
            goOn(i + 1, set | road.maybe & 1 << cart);
        }

        private boolean asSeen(int i) {
            for (int j = 0; j < size; j++) {
                if (due[j] == i && watch.count[bird[j]] != count[j]) {
                    return false;
                }
            }
            return true;
        }

        private void comesBy(int cart) {
            for (int post = 0; post < road.posts; post++) {
                if (has(watched, post)) {
                    watch.look(post, road.minute[cart] + road.at[post]);
                }
            }
        }

        int inNone() {
            return road.maybe & ~inSome;
        }
    }
}
