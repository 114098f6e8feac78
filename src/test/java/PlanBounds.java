/** The boundaries that the document names for PARTY, HEAPS, REST, TEACH and SEATS, and promises 16 to 21. */
final class PlanBounds {
    private static final int[] FAR = {Integer.MIN_VALUE, Integer.MAX_VALUE};
    /** Whoever comes by at c's minute, or not more than 5 behind another, is free; all others pay 90. */
    private static final String NINETY = "bird a counts 1 gap 5;post p at 0 toll 90 a;cart c at 30 sacks 1;";
    /** Each pays as much as it has sacks, if it is counted. */
    private static final String BY_SACKS = "bird a counts 1 gap 5;post p at 0 toll 1 a;law sacks;";

    private PlanBounds() { }

    /** As many birds and posts as can be: what is paid at each post counts. */
    private static final String FULL = "bird a counts 1 gap 99;bird b counts 1 gap 99;bird c counts 1 gap 99;bird d counts 1 gap 99;bird e counts 1 gap 99;"
        + "post p at 0 toll 10 a;post q at 33 toll 20 b;post r at 66 toll 30 c;post s at 99 toll 40 d e;";

    static void tell(Book book) {
        party(book);
        heaps(book);
        rest(book);
        turns(book);
        teach(book);
        seats(book);
        promise16(book);
        promise17(book);
        promise18(book);
        promise19(book);
        promise20(book);
        promise21(book);
    }

    private static void party(Due due, CrowToll x, int[] asked, int want, int... lying) {
        String call = "party(" + asked[0] + ", " + asked[1] + ", " + asked[2] + ", " + asked[3] + ", " + asked[4] + ")";
        due.is(call, x.party(asked[0], asked[1], asked[2], asked[3], asked[4]), want);
        due.lie(call, x, lying);
    }

    private static void noParty(Due due, int n, int sacks, int minute, int w, int late) {
        Twins.clears(due, "party(" + n + ", " + sacks + ", " + minute + ", " + w + ", " + late + ")", Twins::busy,
            x -> x.party(n, sacks, minute, w, late));
    }

    private static void party(Book book) {
        book.holds("Part 3", "PARTY of n (1 .. 3) CARTS with as many sacks each,", due -> {
            CrowToll x = Due.on(BY_SACKS);
            party(due, x, new int[] {1, 7, 0, 0, 0}, 7, 0);
            party(due, x, new int[] {2, 7, 0, 0, 0}, 7, 0, 0);
            party(due, x, new int[] {3, 7, 0, 0, 0}, 7, 0, 0, 0);
            party(due, Due.on(FULL), new int[] {3, 99, 600, 20, 99}, 100, 0, 0, 0);
            for (int n : new int[] {0, 4, -1, FAR[0], FAR[1]}) {
                noParty(due, n, 1, 0, 0, 0);
            }
        });
        book.holds("Part 3", "that would set out within w (0 .. 20) MINUTES from a MINUTE on,", due -> {
            CrowToll x = Due.on(NINETY);
            party(due, x, new int[] {1, 1, 30, 0, 1}, 0, 0);
            party(due, x, new int[] {1, 1, 29, 0, 1}, 90, 0);
            party(due, x, new int[] {1, 1, 29, 1, 1}, 1, 1);
            party(due, x, new int[] {1, 1, 11, 19, 1}, 19, 19);
            party(due, x, new int[] {1, 1, 10, 19, 1}, 90, 0);
            party(due, x, new int[] {1, 1, 10, 20, 1}, 20, 20);
            party(due, x, new int[] {1, 1, 9, 20, 1}, 90, 0);
            for (int w : new int[] {-1, 21, FAR[0], FAR[1]}) {
                noParty(due, 1, 1, 0, w, 0);
            }
            // they may set out behind minute 600: only the minute that is asked for is bounded
            CrowToll late = Due.on("bird a counts 20 gap 2;post p at 0 toll 0 a;cart c at 599 sacks 1;law (nth > 1) * 9 + 1;");
            party(due, late, new int[] {1, 1, 600, 20, 1}, 3, 2);
        });
        book.holds("Part 3", "behind those there by number:", due -> {
            CrowToll x = Due.on(BY_SACKS);
            x.come(10, 5);
            party(due, x, new int[] {1, 9, 10, 0, 0}, 0, 0);
            party(due, x, new int[] {1, 9, 9, 0, 0}, 9, 0);
            // by minutes first: what has the higher number may be ahead
            x.come(3, 5);
            party(due, x, new int[] {1, 9, 8, 0, 0}, 0, 0);
            party(due, x, new int[] {1, 9, 9, 0, 0}, 9, 0);
        });
        book.holds("Part 3", "the least that they PAY together with so much for each MINUTE of each behind that one;", due -> {
            CrowToll x = Due.on(NINETY);
            party(due, x, new int[] {1, 1, 20, 20, 8}, 80, 10);
            party(due, x, new int[] {2, 1, 26, 20, 11}, 88, 4, 4);
            party(due, x, new int[] {2, 1, 26, 20, 12}, 90, 0, 0);
            party(due, x, new int[] {3, 1, 29, 20, 29}, 87, 1, 1, 1);
            party(due, x, new int[] {3, 1, 29, 20, 31}, 90, 0, 0, 0);
            due.is("c pays as before", x.cart(0, 4), 90);
        });
        book.holds("Part 3", "their MINUTES, of like ones the first (none before the one ahead of it; the first counts most).", due -> {
            CrowToll x = Due.on(NINETY);
            party(due, x, new int[] {1, 1, 20, 20, 9}, 90, 0);
            party(due, x, new int[] {3, 1, 29, 20, 30}, 90, 0, 0, 0);
            party(due, x, new int[] {3, 1, 26, 20, 0}, 0, 4, 4, 4);
            party(due, x, new int[] {3, 1, 30, 20, 0}, 0, 0, 0, 0);
        });
    }

    private static void heaps(Due due, CrowToll x, int sacks, int carts, int pay) {
        due.is("heaps(" + sacks + ", 0, 0)", x.heaps(sacks, 0, 0), carts);
        due.is("heaps(" + sacks + ", 0, 1)", x.heaps(sacks, 0, 1), pay);
    }

    private static void noHeaps(Due due, int sacks, int minute, int what) {
        Twins.nothing(due, "heaps(" + sacks + ", " + minute + ", " + what + ")", x -> x.heaps(sacks, minute, what), -1);
    }

    private static void heaps(Book book) {
        book.holds("Part 3", "HEAPS: so many sacks (1 .. 99) on m (1 .. 6) CARTS that set out at one MINUTE", due -> {
            CrowToll x = Due.on(BY_SACKS);
            heaps(due, x, 1, 1, 1);
            heaps(due, x, 6, 6, 1);
            heaps(due, x, 99, 6, 17);
            heaps(due, x, 96, 6, 16);
            x.come(10, 1);
            x.come(3, 1);
            x.party(3, 1, 3, 20, 0);
            due.is("just at that minute: before all", x.heaps(5, 2, 1), 1);
            due.is("behind the one of that minute", x.heaps(5, 3, 1), 0);
            due.is("the last that is not more than the gap behind", x.heaps(5, 8, 1), 0);
            due.is("the first that is", x.heaps(5, 9, 1), 1);
            for (int sacks : new int[] {0, 100, -1, FAR[0], FAR[1]}) {
                noHeaps(due, sacks, 0, 0);
            }
        });
        book.holds("Part 3", "(each as many, the first ones one more, none empty):", due -> {
            CrowToll x = Due.on(BY_SACKS);
            heaps(due, x, 2, 2, 1);
            heaps(due, x, 5, 5, 1);
            heaps(due, x, 7, 4, 2);
            heaps(due, x, 13, 5, 3);
        });
        book.holds("Part 3", "for which m they PAY least; of like ones the least.", due -> {
            heaps(due, Due.on(NINETY), 99, 1, 90);
            heaps(due, Due.on("bird a counts 9 gap 9;post p at 0 toll 1 a;law (sacks > 4) * 7;"), 9, 3, 0);
            heaps(due, Due.on("bird a counts 9 gap 9;post p at 0 toll 1 a;law 99 - sacks;"), 50, 1, 49);
            heaps(due, new CrowToll(), 99, 1, 0);
            heaps(due, Due.on(FULL), 99, 1, 100);
        });
    }

    private static void rest(Book book) {
        book.holds("Part 3", "REST: each of the CARTS that come (by number, 8 at most)", due -> {
            CrowToll x = Due.on("cart m at 1 sacks 1 maybe;");
            for (int i = 0; i < 8; i++) {
                x.come(i, 1);
            }
            due.is("eight come", x.rest(), 1);
            due.lie("eight come", x, 0, 0, 0, 0, 0, 0, 0, 0, 0);
            x.doubt(0);
            due.is("nine come", x.rest(), -1);
            due.lie("nine come", x);
            due.is("none come", new CrowToll().rest(), 1);
            // d pays 25 at each post ahead of c, and behind it at the last one alone; c never pays
            CrowToll full = Due.on(FULL + "cart d at 5 sacks 50;cart c at 8 sacks 1;law sacks / 2;");
            due.is("two at four posts", full.rest(), 2);
            due.lie("two at four posts", full, 4, 0);
        });
        book.holds("Part 3", "may set out up to 9 MINUTES later than told:", due -> {
            CrowToll nine = Due.on(BY_SACKS + "cart c at 20 sacks 1;cart d at 11 sacks 50;");
            due.is("nine later", nine.rest(), 2);
            due.is("nine later, asked again", nine.rest(), 2);
            due.lie("nine later", nine, 0, 9);
            CrowToll ten = Due.on(BY_SACKS + "cart c at 20 sacks 1;cart d at 10 sacks 50;");
            due.is("ten would be needed", ten.rest(), 1);
            due.lie("ten would be needed", ten, 0, 0);
            CrowToll end = Due.on(BY_SACKS + "cart c at 600 sacks 1;cart d at 600 sacks 50;cart e at 591 sacks 99;");
            due.is("at the end of the day", end.rest(), 2);
            due.lie("at the end of the day", end, 0, 0, 9);
        });
        book.holds("Part 3", "each in turn, by number, takes the MINUTE by which he PAYS least, all others as they are by then,", due -> {
            // d waits for e, then e for d, and so on, till both come by behind c
            String road = "bird a counts 1 gap 2;post p at 0 toll 1 a;law sacks;cart c at 8 sacks 1;";
            CrowToll x = Due.on(road + "cart d at 3 sacks 30;cart e at 5 sacks 30;");
            due.is("d at 6, 7, 8", x.rest(), 4);
            due.lie("d at 6, 7, 8", x, 0, 5, 3);
            CrowToll y = Due.on(road + "cart e at 2 sacks 30;cart d at 3 sacks 30;");
            due.is("e at 4, 5, 6, 7, 8", y.rest(), 6);
            due.lie("e at 4, 5, 6, 7, 8", y, 0, 6, 5);
        });
        book.holds("Part 3", "with 1 for each MINUTE (of like ones the least), again and again,", due -> {
            CrowToll like = Due.on(BY_SACKS + "cart c at 5 sacks 1;cart d at 3 sacks 2;");
            due.is("waiting costs as much", like.rest(), 1);
            due.lie("waiting costs as much", like, 0, 0);
            CrowToll less = Due.on(BY_SACKS + "cart c at 5 sacks 1;cart d at 3 sacks 3;");
            due.is("waiting costs less", less.rest(), 2);
            due.lie("waiting costs less", less, 0, 2);
        });
    }

    /** Found by search; Model says so too: it rests at the 20th turn. */
    private static final String TWENTY = "bird ba counts 2 gap 6;post pa at 1 toll 10;post pb at 6 toll 6 ba;cart ca at 1 sacks 5;"
        + "cart cb at 0 sacks 8;cart cc at 5 sacks 4;cart cd at 1 sacks 7;cart ce at 10 sacks 1;cart cf at 0 sacks 6;cart cg at 10 sacks 5;"
        + "cart ch at 5 sacks 3;law toll*nth;";
    /** This one would rest at the 21st. */
    private static final String MORE = "bird ba counts 2 gap 9;post pb at 0 toll 6 ba;cart ca at 1 sacks 8;cart cb at 0 sacks 1;"
        + "cart cc at 6 sacks 4;cart cd at 5 sacks 1;cart ce at 1 sacks 7;cart cf at 0 sacks 5;cart cg at 0 sacks 5;cart ch at 9 sacks 1;law toll*nth;";
    /** Each waits for the other for ever. */
    private static final String CHASE = "bird a counts 1 gap 5;post p at 0 toll 10 a;cart c at 0 sacks 1;cart d at 3 sacks 1;";

    private static CrowToll taught(String road) {
        CrowToll x = Due.on(road);
        x.image(1);
        x.teach(1);
        return x;
    }

    private static void turns(Book book) {
        book.holds("Part 3", "till a turn of all changes none: after how many turns (that one too; 20 at most).", due -> {
            due.is("the first turn changes none", Due.on(NINETY).rest(), 1);
            due.is("the second does not", Due.on(BY_SACKS + "cart c at 20 sacks 1;cart d at 11 sacks 50;").rest(), 2);
            CrowToll x = Due.on(TWENTY);
            due.is("the twentieth does not", x.rest(), 20);
            due.lie("the twentieth does not", x, 0, 1, 3, 0, 5, 1, 5, 3);
            due.is("asked again", x.rest(), 20);
            due.is("the 21st would not", Due.on(MORE).rest(), -1);
        });
    }

    private static void teach(Due due, CrowToll x, int so, int want, int... lying) {
        due.is("teach(" + so + ")", x.teach(so), want);
        due.lie("teach(" + so + ")", x, lying);
    }

    private static final String TWO_POSTS = "bird a counts 1 gap 99;bird b counts 1 gap 99;bird z counts 19 gap 1;"
        + "post p at 0 toll 5 a;post q at 0 toll 7 b;cart c at 0 sacks 1;cart d at 10 sacks 1;cart e at 20 sacks 1;";

    private static void teach(Book book) {
        book.holds("Part 3", "TEACH so much (0 .. 3):", due -> {
            CrowToll x = Due.on(TWO_POSTS);
            teach(due, x, 0, 12, 0, 0, 0);
            teach(due, x, 1, 19, 0, 1, 0);
            teach(due, x, 2, 26, 0, 2, 0);
            teach(due, x, 3, 31, 1, 2, 0);
            teach(due, x, 4, -1);
            teach(due, x, -1, -1);
        });
        book.holds("Part 3", "of all ways to let BIRDS count so much further, just that, together", due -> {
            // whoever is not the first of a bird pays nothing: it were better not to teach a, but b can't learn
            CrowToll x = Due.on("bird a counts 1 gap 9;bird b counts 20 gap 9;post p at 0 toll 1 a b;cart c at 0 sacks 1;cart d at 1 sacks 1;"
                + "law (nth = 1) * 10;");
            teach(due, x, 0, 20, 0, 0);
            teach(due, x, 1, 10, 1, 0);
            teach(due, x, 3, 10, 3, 0);
        });
        book.holds("Part 3", "(20 at most each): the one of the greatest INCOME;", due -> {
            for (int so = 1; so <= 3; so++) {
                teach(due, Due.on("bird a counts " + (20 - so) + " gap 1;"), so, 0, so);
                teach(due, Due.on("bird a counts " + (21 - so) + " gap 1;"), so, -1);
                teach(due, Due.on("bird a counts " + (21 - so) + " gap 1;bird b counts 1 gap 1;"), so, 0, 0, so);
            }
            CrowToll x = Due.on("bird a counts 19 gap 99;post p at 0 toll 1 a;");
            for (int i = 0; i < 24; i++) {
                x.come(i, 1);
            }
            teach(due, x, 0, 19, 0);
            teach(due, x, 1, 20, 1);
            x.learn(0, 1);
            teach(due, x, 0, 20, 0);
            teach(due, x, 1, -1);
            // by minutes the second cart is ahead
            CrowToll y = Due.on(BY_SACKS + "cart c at 9 sacks 1;cart d at 5 sacks 50;");
            teach(due, y, 0, 50, 0);
            teach(due, y, 1, 51, 1);
        });
        book.holds("Part 3", "of like ones the first (how much for each BIRD, the first counts most, the less first).", due -> {
            CrowToll x = Due.on("bird a counts 1 gap 9;bird b counts 1 gap 9;bird c counts 1 gap 9;bird d counts 1 gap 9;bird e counts 18 gap 9;");
            teach(due, x, 0, 0, 0, 0, 0, 0, 0);
            teach(due, x, 1, 0, 0, 0, 0, 0, 1);
            teach(due, x, 2, 0, 0, 0, 0, 0, 2);
            teach(due, x, 3, 0, 0, 0, 0, 1, 2);
            x.learn(4, 1);
            teach(due, x, 3, 0, 0, 0, 0, 2, 1);
        });
    }

    private static void seats(Due due, String road, int want, int... lying) {
        CrowToll x = Due.on(road);
        due.is("seats() of " + road, x.seats(), want);
        due.lie("seats() of " + road, x, lying);
    }

    private static void seats(Book book) {
        book.holds("Part 3", "SEATS: of all ways to put each BIRD at a POST (those of one POST by number): likewise (the POST of each BIRD).", due -> {
            String two = "bird a counts 1 gap 99;bird b counts 1 gap 99;post p at 0 toll 5;post q at 0 toll 5;";
            seats(due, two, 0, 0, 0);
            seats(due, two + "cart c at 0 sacks 1;", 10, 0, 1);
            seats(due, TWO_POSTS, 31, 0, 0, 1);
            // told in another order they would take in 3
            seats(due, "bird a counts 1 gap 99 takes 9;bird b counts 2 gap 99;post p at 0 toll 1 b a;"
                + "cart c at 0 sacks 1;cart d at 1 sacks 1;cart e at 2 sacks 1;", 1, 0, 0);
            seats(due, "bird a counts 1 gap 9;bird b counts 1 gap 9;bird c counts 1 gap 9;bird d counts 1 gap 9;bird e counts 1 gap 9;"
                + "post p at 0 toll 1;post q at 1 toll 1;post r at 2 toll 1;post s at 3 toll 9;cart c at 0 sacks 1;", 12, 0, 0, 1, 2, 3);
            seats(due, "post p at 0 toll 5;cart c at 1 sacks 1;", 0);
            seats(due, BY_SACKS + "cart c at 9 sacks 1;cart d at 5 sacks 50;", 50, 0);
        });
    }

    private static void promise16(Book book) {
        book.holds("Promise 16", "NONE if one can't be (sacks 1 .. 99, MINUTE 0 .. 600, so much a MINUTE 0 .. 99),", due -> {
            CrowToll x = Due.on(BY_SACKS + "cart c at 550 sacks 1;");
            party(due, x, new int[] {1, 1, 0, 0, 0}, 1, 0);
            party(due, x, new int[] {1, 99, 0, 0, 0}, 99, 0);
            party(due, x, new int[] {1, 1, 600, 0, 0}, 1, 0);
            party(due, x, new int[] {1, 99, 549, 20, 98}, 98, 1);
            party(due, x, new int[] {1, 99, 549, 20, 99}, 99, 0);
            party(due, x, new int[] {3, 99, 600, 20, 99}, 99, 0, 0, 0);
            for (int far : FAR) {
                noParty(due, 1, far, 0, 0, 0);
                noParty(due, 1, 1, far, 0, 0);
                noParty(due, 1, 1, 0, 0, far);
            }
            noParty(due, 1, 0, 0, 0, 0);
            noParty(due, 1, 100, 0, 0, 0);
            noParty(due, 1, 1, -1, 0, 0);
            noParty(due, 1, 1, 601, 0, 0);
            noParty(due, 1, 1, 0, 0, -1);
            noParty(due, 1, 1, 0, 0, 100);
        });
        book.holds("Promise 16", "or there would be more than 24 CARTS.", due -> {
            for (int n = 1; n <= 3; n++) {
                int party = n;
                due.is("24 in all, " + n + " of them new", Twins.with(24 - n).party(n, 1, 0, 0, 0) >= 0, true);
                Twins.clears(due, "25 in all, " + n + " of them new", () -> Twins.with(25 - party), x -> x.party(party, 1, 0, 0, 0));
            }
        });
        book.holds("Promise 16", "Their MINUTES (behind that one) lie there then (behind NONE: nothing).", due -> {
            CrowToll x = Due.on(NINETY);
            party(due, x, new int[] {3, 1, 28, 3, 1}, 6, 2, 2, 2);
            party(due, x, new int[] {2, 1, 28, 3, 1}, 4, 2, 2);
            party(due, x, new int[] {0, 1, 28, 3, 1}, -1);
            party(due, x, new int[] {1, 1, 28, 3, 1}, 2, 2);
            due.is("no cart more", x.about(2), 1);
            due.is("no act", x.about(3), 0);
        });
    }

    private static void promise17(Book book) {
        book.holds("Promise 17", "HEAPS what 0: how many CARTS, 1: what they PAY;", due -> {
            CrowToll x = Due.on(BY_SACKS);
            x.party(1, 1, 0, 0, 0);
            heaps(due, x, 50, 6, 9);
            due.lie("what lies there stays", x, 0);
            noHeaps(due, 1, 0, -1);
            noHeaps(due, 1, 0, 2);
            noHeaps(due, 1, 0, FAR[0]);
            noHeaps(due, 1, 0, FAR[1]);
        });
        book.holds("Promise 17", "NONE if one can't be (6 more than 24 CARTS, too).", due -> {
            for (int minute : new int[] {-1, 601, FAR[0], FAR[1]}) {
                noHeaps(due, 1, minute, 0);
                noHeaps(due, 1, minute, 1);
            }
            CrowToll x = Due.on(NINETY);
            due.is("minute 0", x.heaps(1, 0, 1), 90);
            due.is("minute 600", x.heaps(1, 600, 1), 90);
            due.is("18 carts", Twins.with(18).heaps(99, 0, 0) > 0, true);
            Twins.nothing(due, "19 carts", () -> Twins.with(19), t -> t.heaps(99, 0, 0), -1);
            Twins.nothing(due, "19 carts, for one sack too", () -> Twins.with(19), t -> t.heaps(1, 0, 1), -1);
            Twins.nothing(due, "24 carts", () -> Twins.with(24), t -> t.heaps(1, 0, 0), -1);
        });
    }

    /** So many that come, on a road where nobody pays; something lies there. */
    private static CrowToll calm(int carts) {
        CrowToll x = Due.on("bird a counts 1 gap 1;cart m at 1 sacks 1 maybe;");
        for (int i = 0; i < carts; i++) {
            x.come(i, 1);
        }
        x.teach(1);
        return x;
    }

    private static void promise18(Book book) {
        book.holds("Promise 18", "NONE if 20 were not enough, or more than 8 come.", due -> {
            Twins.clears(due, "rest() of those who wait for ever", () -> taught(CHASE), CrowToll::rest);
            Twins.clears(due, "rest() that would take 21 turns", () -> taught(MORE), CrowToll::rest);
            Twins.clears(due, "rest() of nine", () -> calm(9), CrowToll::rest);
            Twins.clears(due, "rest() of 23", () -> calm(23), CrowToll::rest);
            due.is("20 are enough", taught(TWENTY).rest(), 20);
            due.is("of eight", calm(8).rest(), 1);
        });
        book.holds("Promise 18", "How much later each CART sets out lies there then, by number (0 of those that do not come; behind NONE: nothing).", due -> {
            CrowToll x = Due.on(BY_SACKS + "cart m at 1 sacks 50 maybe;cart c at 20 sacks 1;cart n at 11 sacks 50 maybe;cart d at 11 sacks 50;");
            due.is("rest()", x.rest(), 2);
            due.lie("rest()", x, 0, 0, 0, 9);
            x.doubt(2);
            x.rest();
            due.lie("when n comes too", x, 0, 0, 9, 9);
            x.doubt(2);
            x.rest();
            due.lie("when it does not come again", x, 0, 0, 0, 9);
            due.is("in earnest d sets out as told", x.cart(3, 0), 11);
            CrowToll none = new CrowToll();
            due.is("of none", none.rest(), 1);
            due.lie("of none", none);
            CrowToll eight = calm(8);
            eight.rest();
            due.lie("of eight and one that does not come", eight, 0, 0, 0, 0, 0, 0, 0, 0, 0);
        });
    }

    private static void promise19(Book book) {
        book.holds("Promise 19", "NONE if one can't be, or no way is.", due -> {
            for (int so : new int[] {-1, 4, FAR[0], FAR[1]}) {
                Twins.clears(due, "teach(" + so + ")", Twins::busy, x -> x.teach(so));
            }
            teach(due, new CrowToll(), 1, -1);
            Twins.clears(due, "teach(2) of one that counts 19", () -> taught("bird a counts 19 gap 1;"), x -> x.teach(2));
        });
        book.holds("Promise 19", "How much for each BIRD lies there then (behind NONE: nothing).", due -> {
            CrowToll x = Due.on(TWO_POSTS);
            teach(due, x, 3, 31, 1, 2, 0);
            due.is("in earnest b counts as told", x.bird(1, 0), 1);
            due.is("no act", x.about(3), 0);
            teach(due, x, 4, -1);
            teach(due, new CrowToll(), 0, 0);
            // d and e count two at s already, so that a third comes in there by either
            CrowToll full = Due.on(FULL + "cart c at 1 sacks 1;cart d at 2 sacks 1;cart e at 3 sacks 1;");
            teach(due, full, 0, 140, 0, 0, 0, 0, 0);
            teach(due, full, 1, 180, 0, 0, 0, 0, 1);
            teach(due, full, 2, 210, 0, 0, 1, 0, 1);
            teach(due, full, 3, 240, 0, 0, 2, 0, 1);
            CrowToll first = Due.on("bird a counts 1 gap 99;bird b counts 1 gap 99;bird c counts 1 gap 99;bird d counts 1 gap 99;bird e counts 1 gap 99;"
                + "post p at 0 toll 50 a;post q at 0 toll 1 b c d e;cart c at 1 sacks 1;cart d at 2 sacks 1;cart e at 3 sacks 1;cart f at 4 sacks 1;");
            teach(due, first, 1, 104, 1, 0, 0, 0, 0);
            teach(due, first, 2, 154, 2, 0, 0, 0, 0);
            teach(due, first, 3, 204, 3, 0, 0, 0, 0);
        });
    }

    private static CrowToll withoutPosts() {
        return taught("bird a counts 19 gap 1;cart c at 1 sacks 1;");
    }

    private static void promise20(Book book) {
        book.holds("Promise 20", "NONE without POSTS.", due -> {
            due.is("of a new object", new CrowToll().seats(), -1);
            Twins.clears(due, "seats() without posts", PlanBounds::withoutPosts, CrowToll::seats);
        });
        book.holds("Promise 20", "The POST of each BIRD lies there then (behind NONE: nothing).", due -> {
            CrowToll x = Due.on(TWO_POSTS);
            due.is("seats()", x.seats(), 31);
            due.lie("seats()", x, 0, 0, 1);
            due.is("in earnest z sits nowhere", x.bird(2, 1), -1);
            due.is("no act", x.about(3), 0);
        });
    }

    private static void promise21(Book book) {
        book.holds("Promise 21", "The i-th number of what lies there; NONE if there is none such.", due -> {
            CrowToll x = Due.on(TWO_POSTS);
            due.lie("nothing at first", x);
            x.teach(3);
            due.lie("behind teach", x, 1, 2, 0);
            for (int i : new int[] {-1, 3, 5, 24, FAR[0], FAR[1]}) {
                Twins.nothing(due, "lies(" + i + ")", t -> t.lies(i), -1);
            }
            x.party(1, 1, 0, 0, 0);
            due.lie("only what came last", x, 0);
            StringBuilder maybe = new StringBuilder();
            for (int i = 0; i < 12; i++) {
                maybe.append("cart ").append((char) ('a' + i)).append(" at 1 sacks 1 maybe;");
            }
            CrowToll most = Due.on(maybe.toString());
            for (int i = 0; i < 8; i++) {
                most.come(i, 1);
            }
            most.rest();
            due.lie("the most that can lie there", most, new int[20]);
        });
    }
}
