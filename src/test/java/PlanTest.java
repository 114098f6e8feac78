/** Promises 16 to 21: party, heaps, rest, teach, seats, and what lies there behind them. */
public final class PlanTest {
    private static final Due DUE = new Due("PlanTest");

    /** The bird counts one; whoever comes by not more than 5 minutes behind another is free. */
    private static final String ONE = "bird a counts 1 gap 5;post p at 0 toll 10 a;";

    private static void full(CrowToll x, int carts) {
        while (x.about(2) < carts) {
            x.come(300, 1);
        }
    }

    private static void party() {
        CrowToll x = Due.on(ONE + "cart c at 10 sacks 1;");
        DUE.is("behind c in its minute", x.party(1, 3, 10, 20, 1), 0);
        DUE.lie("behind c in its minute", x, 0);
        DUE.is("too early to be free", x.party(1, 3, 6, 3, 1), 10);
        DUE.lie("too early to be free", x, 0);
        DUE.is("the last minute of w", x.party(1, 3, 6, 4, 1), 4);
        DUE.lie("the last minute of w", x, 4);
        DUE.is("waiting is too dear", x.party(1, 3, 6, 4, 3), 10);
        DUE.lie("waiting is too dear", x, 0);
        DUE.is("two at once", x.party(2, 3, 6, 0, 0), 10);
        DUE.lie("two at once", x, 0, 0);
        DUE.is("both wait", x.party(2, 3, 6, 20, 1), 8);
        DUE.lie("both wait", x, 4, 4);
        DUE.is("waiting for nothing: the first way", x.party(3, 3, 6, 20, 0), 0);
        DUE.lie("waiting for nothing: the first way", x, 4, 4, 4);
        DUE.is("only what they pay", x.income(-1), 10);
        DUE.is("no cart more", x.about(2), 1);
        CrowToll late = Due.on("bird a counts 20 gap 2;post p at 0 toll 0 a;cart c at 599 sacks 1;law (nth > 1) * 9 + 1;");
        DUE.is("beyond minute 600", late.party(1, 1, 600, 20, 1), 3);
        DUE.lie("beyond minute 600", late, 2);
    }

    private static void partyThatCantBe() {
        CrowToll x = Due.on(ONE + "cart c at 10 sacks 1;");
        int[][] wrong = {{0, 1, 0, 0, 0}, {4, 1, 0, 0, 0}, {1, 0, 0, 0, 0}, {1, 100, 0, 0, 0}, {1, 1, -1, 0, 0}, {1, 1, 601, 0, 0},
            {1, 1, 0, -1, 0}, {1, 1, 0, 21, 0}, {1, 1, 0, 0, -1}, {1, 1, 0, 0, 100}, {Integer.MAX_VALUE, 1, 0, 0, 0}};
        for (int[] w : wrong) {
            x.party(1, 1, 0, 0, 0);
            DUE.is("party that can't be", x.party(w[0], w[1], w[2], w[3], w[4]), -1);
            DUE.lie("party that can't be", x);
        }
        DUE.is("the farthest edges", x.party(3, 99, 600, 20, 99), 10);
        full(x, 22);
        DUE.is("24 in all", x.party(2, 1, 0, 0, 0), 10);
        DUE.is("25 in all", x.party(3, 1, 0, 0, 0), -1);
        DUE.lie("25 in all", x);
    }

    private static void heaps() {
        // those of one minute are taken for the first, who has the most sacks
        CrowToll x = Due.on("bird a counts 9 gap 9;post p at 0 toll 0 a;law sacks * sacks;");
        int[][] due = {{10, 5, 4}, {3, 3, 1}, {1, 1, 1}, {6, 6, 1}, {12, 6, 4}, {99, 6, 289}};
        for (int[] d : due) {
            DUE.is("heaps(" + d[0] + ", 0, 0)", x.heaps(d[0], 0, 0), d[1]);
            DUE.is("heaps(" + d[0] + ", 0, 1)", x.heaps(d[0], 0, 1), d[2]);
        }
        DUE.is("one pays as much as many", Due.on(ONE).heaps(9, 0, 0), 1);
        int[][] wrong = {{0, 0, 0}, {100, 0, 0}, {1, -1, 0}, {1, 601, 0}, {1, 0, 2}, {1, 0, -1}};
        for (int[] w : wrong) {
            DUE.is("heaps(" + w[0] + ", " + w[1] + ", " + w[2] + ")", x.heaps(w[0], w[1], w[2]), -1);
        }
        x.party(1, 1, 0, 0, 0);
        full(x, 18);
        DUE.is("heaps with 18 carts", x.heaps(1, 600, 0), 1);
        full(x, 19);
        DUE.is("heaps with 19 carts", x.heaps(1, 0, 0), -1);
        DUE.lie("heaps leaves what lies there", x, 0);
    }

    private static void rest() {
        CrowToll calm = Due.on("bird a counts 1 gap 5;post p at 0 toll 3 a;cart c at 0 sacks 1;cart d at 3 sacks 1;");
        DUE.is("nobody changes", calm.rest(), 1);
        DUE.lie("nobody changes", calm, 0, 0);
        CrowToll two = Due.on("bird a counts 1 gap 5;post p at 0 toll 1 a;"
            + "cart c at 5 sacks 1;cart m at 4 sacks 9 maybe;cart d at 3 sacks 50;law sacks;");
        DUE.is("d waits for c", two.rest(), 2);
        DUE.lie("d waits for c", two, 0, 0, 2);
        DUE.is("nothing is changed in earnest", two.cart(2, 0), 3);
        CrowToll chase = Due.on(ONE + "cart c at 0 sacks 1;cart d at 3 sacks 1;");
        chase.teach(0);
        DUE.is("each waits for the other for ever", chase.rest(), -1);
        DUE.lie("each waits for the other for ever", chase);
        CrowToll many = Due.on("cart m at 1 sacks 1 maybe;");
        full(many, 9);
        DUE.is("eight come", many.rest(), 1);
        DUE.lie("eight come", many, 0, 0, 0, 0, 0, 0, 0, 0, 0);
        many.doubt(0);
        DUE.is("nine come", many.rest(), -1);
        DUE.lie("nine come", many);
        DUE.is("none come", new CrowToll().rest(), 1);
        // found by search: Model says so too
        CrowToll twenty = Due.on("bird ba counts 2 gap 6;post pa at 1 toll 10;post pb at 6 toll 6 ba;cart ca at 1 sacks 5;cart cb at 0 sacks 8;"
            + "cart cc at 5 sacks 4;cart cd at 1 sacks 7;cart ce at 10 sacks 1;cart cf at 0 sacks 6;cart cg at 10 sacks 5;cart ch at 5 sacks 3;"
            + "law toll*nth;");
        DUE.is("rest at the last turn", twenty.rest(), 20);
        DUE.lie("rest at the last turn", twenty, 0, 1, 3, 0, 5, 1, 5, 3);
        // this one would rest at the 21st turn
        CrowToll more = Due.on("bird ba counts 2 gap 9;post pb at 0 toll 6 ba;cart ca at 1 sacks 8;cart cb at 0 sacks 1;cart cc at 6 sacks 4;"
            + "cart cd at 5 sacks 1;cart ce at 1 sacks 7;cart cf at 0 sacks 5;cart cg at 0 sacks 5;cart ch at 9 sacks 1;law toll*nth;");
        DUE.is("one turn too many", more.rest(), -1);
        DUE.lie("one turn too many", more);
    }

    private static final String TWO_POSTS = "bird a counts 1 gap 99;bird b counts 1 gap 99;bird z counts 19 gap 1;"
        + "post p at 0 toll 5 a;post q at 0 toll 7 b;cart c at 0 sacks 1;cart d at 10 sacks 1;cart e at 20 sacks 1;";

    private static void teach() {
        CrowToll x = Due.on(TWO_POSTS);
        DUE.is("teach(0)", x.teach(0), 12);
        DUE.lie("teach(0)", x, 0, 0, 0);
        DUE.is("teach(1)", x.teach(1), 19);
        DUE.lie("teach(1)", x, 0, 1, 0);
        DUE.is("teach(2)", x.teach(2), 26);
        DUE.lie("teach(2)", x, 0, 2, 0);
        DUE.is("teach(3)", x.teach(3), 31);
        DUE.lie("teach(3)", x, 1, 2, 0);
        DUE.is("nothing is changed in earnest", x.bird(0, 0), 1);
        DUE.is("teach(4)", x.teach(4), -1);
        DUE.lie("teach(4)", x);
        DUE.is("teach(-1)", x.teach(-1), -1);
        CrowToll like = Due.on("bird a counts 1 gap 9;bird b counts 1 gap 9;bird z counts 19 gap 1;");
        DUE.is("like ones", like.teach(1), 0);
        DUE.lie("like ones", like, 0, 0, 1);
        DUE.is("z can't learn two", like.teach(2), 0);
        DUE.lie("z can't learn two", like, 0, 1, 1);
        like.learn(2, 1);
        DUE.is("z can't learn at all", like.teach(1), 0);
        DUE.lie("z can't learn at all", like, 0, 1, 0);
        CrowToll none = Due.on("bird a counts 20 gap 1;");
        DUE.is("no way", none.teach(1), -1);
        DUE.lie("no way", none);
        DUE.is("no bird and nothing to teach", new CrowToll().teach(0), 0);
        DUE.is("no bird to teach", new CrowToll().teach(1), -1);
    }

    private static void seats() {
        CrowToll x = Due.on(TWO_POSTS);
        // z counts all at q, or with others: 21 and what p brings
        DUE.is("seats()", x.seats(), 31);
        DUE.lie("seats()", x, 0, 0, 1);
        DUE.is("nothing is changed in earnest", x.bird(1, 1), 1);
        String two = "bird a counts 1 gap 99;bird b counts 1 gap 99;post p at 0 toll 5;post q at 0 toll 7;cart c at 0 sacks 1;";
        CrowToll apart = Due.on(two);
        DUE.is("one cart", apart.seats(), 12);
        DUE.lie("one cart", apart, 0, 1);
        CrowToll both = Due.on(two + "cart d at 10 sacks 1;");
        DUE.is("two carts", both.seats(), 14);
        DUE.lie("two carts", both, 1, 1);
        CrowToll byNumber = Due.on("bird a counts 1 gap 99 takes 9;bird b counts 2 gap 99;post p at 0 toll 1 b a;"
            + "cart c at 0 sacks 1;cart d at 1 sacks 1;cart e at 2 sacks 1;");
        DUE.is("as told", byNumber.income(-1), 3);
        DUE.is("by number", byNumber.seats(), 1);
        CrowToll noPosts = Due.on("bird a counts 1 gap 1;");
        noPosts.teach(1);
        DUE.is("without posts", noPosts.seats(), -1);
        DUE.lie("without posts", noPosts);
        CrowToll noBirds = Due.on("post p at 0 toll 5;cart c at 1 sacks 1;");
        DUE.is("without birds", noBirds.seats(), 0);
        DUE.lie("without birds", noBirds);
    }

    private static void lies() {
        CrowToll x = Due.on(TWO_POSTS);
        DUE.lie("nothing at first", x);
        x.teach(3);
        DUE.is("lies of the greatest int", x.lies(Integer.MAX_VALUE), -1);
        DUE.is("lies of the least int", x.lies(Integer.MIN_VALUE), -1);
        x.come(1, 1);
        x.undo();
        x.sight(0, 0, 0);
        x.image(0);
        x.back(0);
        DUE.lie("what lies there stays", x, 1, 2, 0);
        x.party(2, 1, 0, 0, 0);
        DUE.lie("till something else does", x, 0, 0);
    }

    public static void main(String[] args) {
        party();
        partyThatCantBe();
        heaps();
        rest();
        teach();
        seats();
        lies();
        DUE.finish();
    }
}
