/** The boundaries that the document names for the DAY, what is PAID and ACTS, and promises 6 to 15. */
final class DayBounds {
    private static final int[] FAR = {Integer.MIN_VALUE, Integer.MAX_VALUE};
    /** The greatest int, in a law's words. */
    private static final String GREATEST = "(9999 * 9999 * 21 + 9999 * 4790 + 8416)";

    private DayBounds() { }

    static void tell(Book book) {
        calls(book);
        order(book);
        gap(book);
        takes(book);
        counts(book);
        law(book);
        dayAndActs(book);
        undone(book);
        promise6(book);
        promises7And8(book);
        promises9And10(book);
        promise11(book);
        promise12(book);
        promise13(book);
        promises14And15(book);
    }

    /** Which bird counts the carts of these minutes at post 0: its number, or a dot. */
    private static void looks(Due due, String birds, String want, int... minutes) {
        StringBuilder s = new StringBuilder(birds);
        for (int i = 0; i < minutes.length; i++) {
            s.append("cart ").append((char) ('a' + i)).append(" at ").append(minutes[i]).append(" sacks 1;");
        }
        CrowToll x = Due.on(s.toString());
        for (int i = 0; i < minutes.length; i++) {
            due.is("counter(" + i + ", 0) of " + s, x.counter(i, 0), want.charAt(i) == '.' ? -1 : want.charAt(i) - '0');
        }
    }

    private static String one(int counts, int gap, int takes) {
        return "bird a counts " + counts + " gap " + gap + " takes " + takes + ";post p at 0 toll 1 a;";
    }

    private static void calls(Book book) {
        book.holds("What it is", "An object is used for at most 512 calls after it has been made", due -> {
            CrowToll x = new CrowToll();
            for (int i = 0; i < 255; i++) {
                due.is("call " + (2 * i + 1), x.come(1, 1), 0);
                due.is("call " + (2 * i + 2), x.undo(), true);
            }
            due.is("call 511", x.come(600, 99), 0);
            due.is("call 512", x.cart(0, 1), 99);
        });
    }

    private static void order(Book book) {
        book.holds("Part 2", "A CART comes by each POST as many MINUTES behind its setting out as the POST tells.", due -> {
            String road = "bird a counts 1 gap 1;bird b counts 1 gap 1;post p at 0 toll 1 a;post q at 99 toll 1 b;cart c at 600 sacks 1;";
            int[][] seen = {{599, 0, 0}, {600, 0, 1}, {698, 1, 0}, {699, 1, 1}};
            for (int[] s : seen) {
                CrowToll so = Due.on(road);
                so.sight(s[0], s[1], s[2]);
                due.is("behind minute " + s[0] + " the count of bird " + s[1] + " is " + s[2], so.came(0, 0), 1);
                CrowToll notSo = Due.on(road);
                notSo.sight(s[0], s[1], 1 - s[2]);
                due.is("behind minute " + s[0] + " the count of bird " + s[1] + " is not " + (1 - s[2]), notSo.came(0, 0), 0);
            }
        });
        book.holds("Part 2", "CARTS come by a POST by MINUTES; of one MINUTE by number.", due -> {
            looks(due, one(1, 50, 0), ".0", 600, 599);
            looks(due, one(9, 50, 0), "0.", 7, 7);
            looks(due, one(9, 50, 0), "00.", 9, 8, 9);
            CrowToll x = Due.on(one(9, 50, 0) + "cart c at 5 sacks 1 maybe;cart d at 5 sacks 1;");
            x.come(5, 1);
            due.is("d is first", x.counter(1, 0), 0);
            due.is("a cart more is behind those told", x.counter(2, 0), -1);
            x.doubt(0);
            due.is("c is ahead of d by its number", x.counter(0, 0), 0);
            due.is("d is free then", x.counter(1, 0), -1);
        });
        book.holds("Part 2", "A BIRD's COUNT is 0 at first.", due -> {
            CrowToll x = Due.on(one(9, 50, 0) + "law nth;");
            due.is("no cart", x.bird(0, 2), 0);
            x.come(0, 1);
            due.is("the first one is the first", x.pays(0, 0), 1);
            due.is("its count then", x.bird(0, 2), 1);
        });
    }

    private static void gap(Book book) {
        book.holds("Part 2", "(1) if it COUNTED one before, and more than its gap has gone by since it last looked at one, its COUNT is 0 again", due -> {
            for (int gap : new int[] {1, 5, 99}) {
                looks(due, one(1, gap, 0), "0.", 3, 3 + gap);
                looks(due, one(1, gap, 0), "00", 3, 4 + gap);
                looks(due, one(1, gap, 0), "0..", 3, 3 + gap, 3 + 2 * gap);
                looks(due, one(1, gap, 0), "0.0", 3, 3 + gap, 4 + 2 * gap);
            }
            CrowToll x = Due.on(one(9, 5, 0) + "cart c at 0 sacks 1;cart d at 5 sacks 1;cart e at 11 sacks 1;");
            due.is("its count at the end", x.bird(0, 2), 1);
            due.is("all that it counted", x.bird(0, 3), 3);
            // one that is taken for another is looked at too
            looks(due, one(1, 5, 3), "0..", 0, 3, 8);
            looks(due, one(1, 5, 3), "0.0", 0, 3, 9);
            // what a bird ahead counts is not looked at by the one behind
            looks(due, "bird a counts 2 gap 3;bird b counts 1 gap 5;post p at 0 toll 1 a b;", "001001", 0, 1, 2, 6, 8, 9);
        });
        book.holds("Part 2", "and it has COUNTED none (of (2));", due -> {
            looks(due, one(9, 1, 9), "0.", 0, 1);
            looks(due, one(9, 1, 9), "00", 0, 2);
            looks(due, one(9, 1, 9), "0.0.", 0, 1, 3, 4);
        });
    }

    private static void takes(Book book) {
        book.holds("Part 2", "(2) if not more than its takes has gone by since it last COUNTED one (takes 0: in the same MINUTE)", due -> {
            for (int takes : new int[] {0, 1, 3, 9}) {
                looks(due, one(9, 50, takes), "0.", 2, 2 + takes);
                looks(due, one(9, 50, takes), "00", 2, 3 + takes);
            }
            looks(due, one(9, 50, 3), "0..0", 0, 2, 3, 4);
            looks(due, one(9, 50, 3), "0.0.0", 0, 3, 4, 7, 8);
        });
        book.holds("Part 2", "it takes it for that one: the CART is FREE there, no BIRD behind it looks;", due -> {
            String two = "bird a counts 1 gap 9 takes 2;bird b counts 1 gap 4;post p at 0 toll 1 a b;";
            looks(due, two, "0..", 0, 1, 2);
            looks(due, two, "0..1", 0, 1, 2, 3);
            // a takes neither 4 nor 8 for one, so b looks at both, and 8 is not more than its gap behind 4
            looks(due, two, "01..", 0, 3, 4, 8);
            CrowToll x = Due.on(two + "cart c at 0 sacks 1;cart d at 2 sacks 1;");
            due.is("it pays nothing", x.pays(1, 0), 0);
            due.is("b counted none", x.bird(1, 3), 0);
        });
    }

    private static void counts(Book book) {
        book.holds("Part 2", "(3) if its COUNT is less than it counts, it COUNTS it: its COUNT is one more, the CART PAYS there, no BIRD behind it looks;", due -> {
            for (int counts : new int[] {1, 2, 19, 20}) {
                CrowToll x = Due.on(one(counts, 99, 0) + "law nth;");
                for (int i = 0; i < 22; i++) {
                    x.come(i, 1);
                    due.is("of a bird that counts " + counts + ", cart " + i + " pays", x.pays(i, 0), i < counts ? i + 1 : 0);
                }
                due.is("its count", x.bird(0, 2), counts);
            }
            CrowToll last = Due.on("bird a counts 20 gap 99;post p at 0 toll 1;post q at 0 toll 1;post r at 0 toll 1;post s at 99 toll 1 a;law nth;");
            for (int i = 0; i < 22; i++) {
                last.come(i, 1);
                due.is("at the fourth post, cart " + i + " pays", last.pays(i, 3), i < 20 ? i + 1 : 0);
            }
            CrowToll two = Due.on("bird a counts 1 gap 9;bird b counts 1 gap 9;post p at 0 toll 1 a b;cart c at 0 sacks 1;");
            due.is("b did not look", two.bird(1, 2), 0);
        });
        book.holds("Part 2", "(4) else the next one looks. Whom none COUNTS is FREE there.", due -> {
            looks(due, "bird a counts 1 gap 9;bird b counts 1 gap 9;post p at 0 toll 1 b a;", "10.", 0, 1, 2);
            looks(due, "bird a counts 1 gap 9;post p at 0 toll 1;", ".", 0);
            CrowToll x = Due.on("post p at 0 toll 9;cart c at 0 sacks 1;law 5;");
            due.is("nobody sits there", x.pays(0, 0), 0);
        });
    }

    private static void law(Due due, String formula, int want) {
        CrowToll x = Due.on("bird a counts 9 gap 9;post p at 3 toll 7 a;cart c at 1 sacks 5;law " + formula + ";");
        due.is("law " + formula, x.pays(0, 0), want);
    }

    private static void law(Book book) {
        book.holds("Part 2", "It PAYS what comes of the law, 0 at least, 9,999 at most", due -> {
            law(due, "0", 0);
            law(due, "0 - 1", 0);
            law(due, "9998", 9998);
            law(due, "9998 + 1", 9999);
            law(due, "9999 + 1", 9999);
            law(due, GREATEST, 9999);
            law(due, GREATEST + " + 1", 0);
        });
        book.holds("Part 2", "(sacks its own, toll the POST's, nth the BIRD's COUNT then;", due -> law(due, "sacks * 100 + toll * 10 + nth", 571));
        book.holds("Part 2", "ints, wrapping;", due -> {
            law(due, GREATEST + " > 0", 1);
            law(due, GREATEST + " + 1 < 0", 1);
            law(due, GREATEST + " + 1 - 1 = " + GREATEST, 1);
            law(due, "0 - (" + GREATEST + " + 1) < 0", 1);
            law(due, "0 - " + GREATEST + " - 2 = " + GREATEST, 1);
            law(due, "(" + GREATEST + " + 1) / (0 - 1) < 0", 1);
            law(due, "5 + (" + GREATEST + " + 1) % (0 - 1)", 5);
            law(due, GREATEST + " * 2 + 7", 5);
            law(due, "9999 * 9999 * 9999 % 1000 + 1000", 31);
        });
        book.holds("Part 2", "/ cut, % its rest, both by 0: 0;", due -> {
            law(due, "7 / 2", 3);
            law(due, "9 + (0 - 7) / 2", 6);
            law(due, "9 + 7 / (0 - 2)", 6);
            law(due, "(0 - 7) / (0 - 2)", 3);
            law(due, "7 % 2", 1);
            law(due, "9 + (0 - 7) % 2", 8);
            law(due, "9 + 7 % (0 - 2)", 10);
            law(due, "9 + 7 / 0", 9);
            law(due, "9 + 7 % 0", 9);
            law(due, "9 + 0 / 0", 9);
            law(due, "9 + 0 % 0", 9);
            law(due, "9 + 7 / (sacks - 5)", 9);
        });
        book.holds("Part 2", "relations, and, or, not are 1 or 0, of what is not 0)", due -> {
            law(due, "(3 < 4) + (4 > 3) * 10 + (4 = 4) * 100", 111);
            law(due, "5 + (4 < 4) + (4 > 4) * 10 + (4 = 3) * 100", 5);
            law(due, "(5 and 7) + (0 or 9) * 10 + (not 0) * 100", 111);
            law(due, "5 + (5 and 0) + (0 and 5) + (0 or 0) * 10 + (not 7) * 100", 5);
            law(due, "1 or 0 and 0", 1);
            law(due, "0 and 0 or 1", 1);
            law(due, "((0 - 1) and (0 - 2)) + ((0 - 3) or 0) * 10 + (not (0 - 1)) * 100", 11);
        });
        book.holds("Part 2", "without law the toll.", due -> {
            for (int toll : new int[] {0, 1, 99}) {
                CrowToll x = Due.on("bird a counts 9 gap 9;post p at 3 toll " + toll + " a;cart c at 1 sacks 5;");
                due.is("toll " + toll, x.pays(0, 0), toll);
            }
        });
    }

    private static void dayAndActs(Book book) {
        book.holds("Part 2", "A DAY: all CARTS that come. (In earnest and below, where nothing else is told, all do but those that are maybe;", due -> {
            CrowToll x = Due.on(one(9, 9, 0) + "cart c at 1 sacks 1 maybe;cart d at 2 sacks 1;");
            due.is("c does not come", x.cart(0, 2), 0);
            due.is("d does", x.cart(1, 2), 1);
            due.is("one counted", x.bird(0, 3), 1);
            x.doubt(0);
            due.is("two counted then", x.bird(0, 3), 2);
            due.is("c pays", x.pays(0, 0), 1);
            x.doubt(0);
            due.is("one counted again", x.bird(0, 3), 1);
            due.is("c pays nothing again", x.pays(0, 0), 0);
            due.is("none of none", Due.on(one(9, 9, 0) + "cart c at 1 sacks 1 maybe;").income(-1), 0);
        });
        book.holds("Part 2", "a CART more sets out (behind those told, by number; 24 in all at most);", due -> {
            StringBuilder carts = new StringBuilder();
            for (char c = 'a'; c <= 'l'; c++) {
                carts.append("cart ").append(c).append(" at 600 sacks 1;");
            }
            CrowToll x = Due.on(one(20, 9, 0) + carts);
            for (int i = 12; i < 24; i++) {
                due.is("cart " + i, x.come(i, 99), i);
            }
            due.is("a 25th", x.come(0, 1), -1);
            due.is("24 in all", x.about(2), 24);
            due.is("the last one", x.cart(23, 4), 1);
            CrowToll none = new CrowToll();
            for (int i = 0; i < 24; i++) {
                due.is("cart " + i + " on an empty road", none.come(i, 1), i);
            }
            due.is("a 25th there", none.come(0, 1), -1);
            none.undo();
            due.is("one taken back makes room", none.come(600, 1), 23);
        });
        book.holds("Part 2", "whether a maybe CART comes is changed; a BIRD learns to count so much further, or forgets.", due -> {
            CrowToll x = Due.on(one(1, 9, 0) + "cart c at 1 sacks 1;cart d at 2 sacks 1 maybe;");
            due.is("d comes", x.doubt(1), 1);
            due.is("it is not counted", x.counter(1, 0), -1);
            due.is("a learns", x.learn(0, 1), 2);
            due.is("it is counted", x.counter(1, 0), 0);
            due.is("a forgets", x.learn(0, -1), 1);
            due.is("it is not counted then", x.counter(1, 0), -1);
        });
    }

    private static void undone(Book book) {
        book.holds("Part 2", "UNDO takes back the latest ACT that was not, REDO does that again which was taken back last (till another ACT);", due -> {
            CrowToll x = Due.on(one(2, 9, 0) + "cart c at 1 sacks 1 maybe;");
            x.come(7, 7);
            x.doubt(0);
            x.learn(0, 5);
            due.is("undo 1", x.undo(), true);
            due.is("undo 2", x.undo(), true);
            due.is("the latest that was not", x.cart(0, 2), 0);
            due.is("a as told", x.bird(0, 0), 2);
            due.is("redo", x.redo(), true);
            due.is("what was taken back last", x.cart(0, 2), 1);
            due.is("it is counted again", x.counter(0, 0), 0);
            due.is("not more", x.bird(0, 0), 2);
            due.is("what is refused is no act", x.come(601, 1), -1);
            due.is("still to redo", x.about(4), 1);
            due.is("another act", x.learn(0, 0), 2);
            due.is("nothing to redo", x.redo(), false);
            due.is("three to undo", x.about(3), 3);
        });
        book.holds("Part 2", "40 at most are kept, the oldest go.", due -> {
            for (int acts : new int[] {39, 40, 41, 100}) {
                CrowToll x = Due.on(one(2, 9, 0) + "cart c at 1 sacks 1 maybe;");
                for (int i = 0; i < acts; i++) {
                    x.doubt(0);
                }
                int kept = Math.min(acts, 40);
                due.is("kept of " + acts, x.about(3), kept);
                int undone = 0;
                while (undone < 99 && x.undo()) {
                    undone++;
                }
                due.is("undone of " + acts, undone, kept);
                due.is("to redo of " + acts, x.about(4), kept);
                due.is("as it was before the 40 of " + acts, x.cart(0, 2), (acts - kept) % 2);
                int redone = 0;
                while (redone < 99 && x.redo()) {
                    redone++;
                }
                due.is("redone of " + acts, redone, kept);
            }
            CrowToll x = Due.on(one(2, 9, 0) + "cart c at 1 sacks 1 maybe;");
            x.come(5, 5);
            for (int i = 0; i < 40; i++) {
                x.learn(0, i % 2 == 0 ? 1 : -1);
            }
            while (x.about(3) > 0) {
                x.undo();
            }
            due.is("the oldest went: its cart stays", x.about(2), 2);
            CrowToll y = Due.on(one(1, 9, 0));
            int[] far = new int[51];
            far[0] = 1;
            for (int i = 0; i < 50; i++) {
                far[i + 1] = y.learn(0, far[i] < 10 ? 1 + i % 5 : -9);
            }
            for (int i = 49; i >= 10; i--) {
                y.undo();
                due.is("how far before act " + i, y.bird(0, 0), far[i]);
            }
            due.is("no more", y.undo(), false);
        });
    }

    private static void promise6(Book book) {
        book.holds("Promise 6", "what 0: when it sets out, 1: its sacks, 2: 1 if it comes, else 0, 3: 1 of a maybe one, else 0, 4: what it PAYS in all;", due -> {
            CrowToll x = Due.on("bird a counts 9 gap 9;bird b counts 9 gap 9;post p at 0 toll 99 a;post q at 99 toll 98 b;"
                + "cart c at 0 sacks 1;cart d at 600 sacks 99 maybe;");
            int[][] want = {{0, 1, 1, 0, 197}, {600, 99, 0, 1, 0}, {600, 99, 1, 1, 197}};
            for (int row = 0; row < 3; row++) {
                for (int what = 0; what < 5; what++) {
                    due.is("cart(" + Math.min(row, 1) + ", " + what + ")", x.cart(Math.min(row, 1), what), want[row][what]);
                }
                if (row == 1) {
                    x.doubt(1);
                }
            }
        });
        book.holds("Promise 6", "NONE if there is none such, or for another what.", due -> {
            for (int cart : new int[] {-1, 6, 24, FAR[0], FAR[1]}) {
                Twins.nothing(due, "cart(" + cart + ", 0)", x -> x.cart(cart, 0), -1);
            }
            for (int what : new int[] {-1, 5, FAR[0], FAR[1]}) {
                Twins.nothing(due, "cart(0, " + what + ")", x -> x.cart(0, what), -1);
            }
            CrowToll x = new CrowToll();
            x.come(1, 1);
            x.undo();
            due.is("one taken back", x.cart(0, 0), -1);
            CrowToll full = Twins.with(24);
            due.is("the last of 24", full.cart(23, 1), 1);
            due.is("behind it", full.cart(24, 1), -1);
        });
    }

    private static void promises7And8(Book book) {
        book.holds("Promise 7", "NONE if none does (or it does not come);", due -> {
            CrowToll x = Due.on(one(1, 9, 0) + "post q at 0 toll 1;cart c at 0 sacks 1;cart d at 1 sacks 1;cart e at 99 sacks 1 maybe;");
            due.is("counted", x.counter(0, 0), 0);
            due.is("nobody there", x.counter(0, 1), -1);
            due.is("not counted", x.counter(1, 0), -1);
            due.is("does not come", x.counter(2, 0), -1);
            x.doubt(2);
            due.is("comes", x.counter(2, 0), 0);
        });
        int[][] none = {{6, 0}, {-1, 0}, {24, 0}, {0, 2}, {0, -1}, {0, 4}, {FAR[0], 0}, {FAR[1], 0}, {0, FAR[0]}, {0, FAR[1]}, {-1, -1}};
        book.holds("Promise 7", "-2 if one can't be.", due -> {
            for (int[] n : none) {
                Twins.nothing(due, "counter(" + n[0] + ", " + n[1] + ")", x -> x.counter(n[0], n[1]), -2);
            }
            due.is("without posts", Due.on("cart c at 1 sacks 1;").counter(0, 0), -2);
            due.is("without carts", Due.on(one(1, 9, 0)).counter(0, 0), -2);
        });
        book.holds("Promise 8", "NONE if one can't be.", due -> {
            for (int[] n : none) {
                Twins.nothing(due, "pays(" + n[0] + ", " + n[1] + ")", x -> x.pays(n[0], n[1]), -1);
            }
            due.is("without posts", Due.on("cart c at 1 sacks 1;").pays(0, 0), -1);
            due.is("without carts", Due.on(one(1, 9, 0)).pays(0, 0), -1);
            due.is("one that does not come", Due.on(one(1, 9, 0) + "cart c at 1 sacks 1 maybe;").pays(0, 0), 0);
        });
    }

    private static void promises9And10(Book book) {
        book.holds("Promise 9", "what 0: how far it counts, 1: its POST (NONE), 2: its COUNT at the end of the DAY, 3: how many it COUNTED in all;", due -> {
            CrowToll x = Due.on("bird a counts 20 gap 5;bird z counts 1 gap 1;post p at 0 toll 1;post q at 0 toll 1;post r at 0 toll 1;"
                + "post s at 0 toll 1 a;cart c at 0 sacks 1;cart d at 5 sacks 1;cart e at 11 sacks 1;");
            int[][] want = {{20, 3, 1, 3}, {1, -1, 0, 0}};
            for (int bird = 0; bird < 2; bird++) {
                for (int what = 0; what < 4; what++) {
                    due.is("bird(" + bird + ", " + what + ")", x.bird(bird, what), want[bird][what]);
                }
            }
        });
        book.holds("Promise 9", "NONE if there is none such, or for another what.", due -> {
            for (int bird : new int[] {-1, 3, 5, FAR[0], FAR[1]}) {
                Twins.nothing(due, "bird(" + bird + ", 0)", x -> x.bird(bird, 0), -1);
            }
            for (int what : new int[] {-1, 4, FAR[0], FAR[1]}) {
                Twins.nothing(due, "bird(0, " + what + ")", x -> x.bird(0, what), -1);
            }
        });
        book.holds("Promise 10", "INCOME of a POST (NONE: of all);", due -> {
            CrowToll x = Due.on("bird a counts 9 gap 9;bird b counts 9 gap 9;post p at 0 toll 99 a;post q at 99 toll 98 b;post r at 0 toll 50;"
                + "cart c at 0 sacks 1;cart d at 600 sacks 99;");
            due.is("income(0)", x.income(0), 198);
            due.is("income(1)", x.income(1), 196);
            due.is("income(2)", x.income(2), 0);
            due.is("income(-1)", x.income(-1), 394);
            CrowToll most = Due.on("bird a counts 20 gap 1;bird b counts 20 gap 1;bird c counts 20 gap 1;bird d counts 20 gap 1;post p at 0 toll 1 a;"
                + "post q at 0 toll 1 b;post r at 0 toll 1 c;post s at 0 toll 1 d;law 9999;");
            for (int i = 0; i < 24; i++) {
                most.come(25 * i, 1);
            }
            due.is("the most at one post", most.income(3), 24 * 9999);
            due.is("the most at all", most.income(-1), 4 * 24 * 9999);
            due.is("the most of one cart", most.cart(0, 4), 4 * 9999);
        });
        book.holds("Promise 10", "-2 if there is none such.", due -> {
            for (int post : new int[] {-2, 2, 4, FAR[0], FAR[1]}) {
                Twins.nothing(due, "income(" + post + ")", x -> x.income(post), -2);
            }
            due.is("without posts", Due.on("cart c at 1 sacks 1;").income(0), -2);
            due.is("all without posts", Due.on("cart c at 1 sacks 1;").income(-1), 0);
        });
    }

    private static void promise11(Book book) {
        book.holds("Promise 11", "NONE, doing nothing, if one can't be (MINUTE 0 .. 600, sacks 1 .. 99),", due -> {
            int[][] none = {{-1, 1}, {601, 1}, {0, 0}, {0, 100}, {0, -1}, {FAR[0], 1}, {FAR[1], 1}, {0, FAR[0]}, {0, FAR[1]}};
            for (int[] n : none) {
                Twins.nothing(due, "come(" + n[0] + ", " + n[1] + ")", x -> x.come(n[0], n[1]), -1);
            }
            int[][] some = {{0, 1}, {600, 1}, {0, 99}, {600, 99}};
            for (int[] n : some) {
                CrowToll x = Twins.busy();
                due.is("come(" + n[0] + ", " + n[1] + ")", x.come(n[0], n[1]), 6);
                due.is("its minute", x.cart(6, 0), n[0]);
                due.is("its sacks", x.cart(6, 1), n[1]);
                due.is("an act", x.about(3), 3);
                due.is("none to redo", x.about(4), 0);
            }
        });
        book.holds("Promise 11", "or there are 24.", due -> {
            due.is("the 24th", Twins.with(23).come(0, 1), 23);
            Twins.nothing(due, "the 25th", () -> Twins.with(24), x -> x.come(0, 1), -1);
        });
    }

    private static void promise12(Book book) {
        book.holds("Promise 12", "Whether a maybe CART comes is changed: 1 if it comes then, else 0;", due -> {
            CrowToll x = Twins.busy();
            for (int i = 0; i < 4; i++) {
                due.is("doubt(4)", x.doubt(4), 1 - i % 2);
                due.is("it comes", x.cart(4, 2), 1 - i % 2);
                due.is("it is maybe still", x.cart(4, 3), 1);
                due.is("an act", x.about(3), 3 + i);
            }
        });
        book.holds("Promise 12", "NONE, doing nothing, if it is no maybe one, or none.", due -> {
            for (int cart : new int[] {0, 5, -1, 6, 24, 32, 35, FAR[0], FAR[1]}) {
                Twins.nothing(due, "doubt(" + cart + ")", x -> x.doubt(cart), -1);
            }
        });
    }

    private static void promise13(Book book) {
        book.holds("Promise 13", "A BIRD counts so much further (-19 .. 19): how far then;", due -> {
            CrowToll x = Due.on("bird a counts 1 gap 9;");
            due.is("learn(0, 19)", x.learn(0, 19), 20);
            due.is("learn(0, -19)", x.learn(0, -19), 1);
            due.is("learn(0, 0)", x.learn(0, 0), 1);
            due.is("three acts", x.about(3), 3);
            for (int by : new int[] {-20, 20, FAR[0], FAR[1]}) {
                Twins.nothing(due, "learn(0, " + by + ")", t -> t.learn(0, by), -1);
            }
        });
        book.holds("Promise 13", "NONE, doing nothing, if one can't be, or it would be below 1 or above 20.", due -> {
            // a counts 3 by now
            int[][] none = {{-1, 1}, {3, 1}, {5, 1}, {FAR[0], 1}, {FAR[1], 1}, {0, -3}, {0, 18}, {1, -1}};
            for (int[] n : none) {
                Twins.nothing(due, "learn(" + n[0] + ", " + n[1] + ")", x -> x.learn(n[0], n[1]), -1);
            }
            due.is("down to 1", Twins.busy().learn(0, -2), 1);
            due.is("up to 20", Twins.busy().learn(0, 17), 20);
        });
    }

    private static CrowToll undoneAll() {
        CrowToll x = Twins.busy();
        x.undo();
        x.undo();
        return x;
    }

    private static CrowToll redoneAll() {
        CrowToll x = Twins.busy();
        x.redo();
        x.redo();
        return x;
    }

    private static void promises14And15(Book book) {
        book.holds("Promise 14", "UNDO: true; false if there is none.", due -> {
            due.is("of a new object", new CrowToll().undo(), false);
            due.is("the first act", Twins.busy().undo(), true);
            Twins.nothing(due, "undo() behind all", DayBounds::undoneAll, x -> x.undo() ? 1 : 0, 0);
        });
        book.holds("Promise 15", "REDO: true; false if there is none.", due -> {
            due.is("of a new object", new CrowToll().redo(), false);
            due.is("the act taken back", Twins.busy().redo(), true);
            Twins.nothing(due, "redo() behind all", DayBounds::redoneAll, x -> x.redo() ? 1 : 0, 0);
        });
    }
}
