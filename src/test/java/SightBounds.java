/** The boundaries that the document names for SIGHTS and CAME, and promises 22 to 28. */
final class SightBounds {
    private static final int[] FAR = {Integer.MIN_VALUE, Integer.MAX_VALUE};
    /** At post p: c at 10, m at 13, n at 30, behind more than the gap. Bird z sits nowhere. */
    private static final String ROAD = "bird a counts 2 gap 5;bird z counts 1 gap 1;post p at 10 toll 1 a;"
        + "cart c at 0 sacks 1;cart m at 3 sacks 1 maybe;cart n at 20 sacks 1 maybe;";
    private static final int M = 2;
    private static final int N = 4;

    private SightBounds() { }

    static void tell(Book book) {
        told(book);
        behind(book);
        known(book);
        came(book);
        promise22(book);
        promise23(book);
        promise24(book);
        promise25(book);
        promise26(book);
        promise27(book);
        promise28(book);
    }

    private static void came(Due due, String when, CrowToll x, int k, int... want) {
        for (int what = 0; what < 3; what++) {
            due.is(when + ", came(" + what + ", " + k + ")", x.came(what, k), want[what]);
        }
    }

    private static CrowToll seen(int... sights) {
        CrowToll x = Due.on(ROAD);
        for (int i = 0; i + 2 < sights.length; i += 3) {
            x.sight(sights[i], sights[i + 1], sights[i + 2]);
        }
        return x;
    }

    private static CrowToll with(int sights) {
        CrowToll x = Twins.busy();
        for (int i = x.about(5); i < sights; i++) {
            x.sight(720, 2, 0);
        }
        return x;
    }

    private static void told(Book book) {
        book.holds("Part 4", "SIGHTS, 30 at most, are TOLD at a TIME (0 at first, goes on),", due -> {
            CrowToll x = Due.on(ROAD);
            due.is("the time at first", x.about(6), 0);
            for (int i = 0; i < 30; i++) {
                due.is("sight " + i, x.sight(0, 0, i == 29 ? 1 : 0), i);
            }
            due.is("the 31st", x.sight(0, 0, 0), -1);
            due.is("30 in all", x.about(5), 30);
            came(due, "the 30th counts", x, 0, 0, 0, 0);
            due.is("untell", x.untell(29), true);
            came(due, "without it", x, 0, 4, 0, 0);
            due.is("an untold one is one of the 30 still", x.sight(0, 0, 0), -1);
            due.is("the time goes on", x.later(1), 1);
        });
        book.holds("Part 4", "UNTOLD at a later one or the same:", due -> {
            CrowToll x = seen(13, 0, 2);
            came(due, "told", x, 0, 2, M, 0);
            x.untell(0);
            came(due, "untold at the same time", x, 0, 4, 0, 0);
            x.sight(13, 0, 2);
            x.later(1);
            x.untell(1);
            came(due, "untold later, as known before", x, 0, 2, M, 0);
            came(due, "untold later", x, 1, 4, 0, 0);
        });
    }

    private static void behind(Book book) {
        book.holds("Part 4", "behind a MINUTE (0 .. 720; all that came by till then, in it too)", due -> {
            came(due, "minute 0", seen(0, 0, 0), 0, 4, 0, 0);
            came(due, "just before c", seen(9, 0, 0), 0, 4, 0, 0);
            came(due, "just before c, one", seen(9, 0, 1), 0, 0, 0, 0);
            came(due, "in the minute of c", seen(10, 0, 1), 0, 4, 0, 0);
            came(due, "in the minute of c, none", seen(10, 0, 0), 0, 0, 0, 0);
            came(due, "just before m", seen(12, 0, 2), 0, 0, 0, 0);
            came(due, "in the minute of m", seen(13, 0, 2), 0, 2, M, 0);
            came(due, "just before n", seen(29, 0, 2), 0, 2, M, 0);
            came(due, "in the minute of n", seen(30, 0, 2), 0, 1, M, N);
            came(due, "minute 720", seen(720, 0, 2), 0, 1, M, N);
            String early = "bird a counts 1 gap 1;post p at 0 toll 1 a;cart c at 0 sacks 1 maybe;";
            CrowToll x = Due.on(early);
            x.sight(0, 0, 1);
            came(due, "a cart in minute 0", x, 0, 1, 1, 0);
            for (int minute : new int[] {-1, 721, FAR[0], FAR[1]}) {
                Twins.nothing(due, "sight(" + minute + ", 0, 0)", t -> t.sight(minute, 0, 0), -1);
            }
        });
        book.holds("Part 4", "a BIRD's COUNT was so much (0 .. 20).", due -> {
            came(due, "of a bird that sits nowhere", seen(720, 1, 0), 0, 4, 0, 0);
            came(due, "of one that sits nowhere, one", seen(720, 1, 1), 0, 0, 0, 0);
            CrowToll empty = Due.on("bird a counts 2 gap 5;bird z counts 1 gap 1;post p at 10 toll 1 a;");
            empty.sight(720, 1, 0);
            empty.sight(720, 0, 0);
            came(due, "without carts", empty, 0, 1, 0, 0);
            empty.sight(720, 1, 1);
            came(due, "without carts, one", empty, 0, 0, 0, 0);
            CrowToll posts = Due.on("bird a counts 2 gap 9;bird b counts 2 gap 9;post p at 10 toll 1 a;post q at 0 toll 1 b;"
                + "cart m at 3 sacks 1 maybe;cart n at 1 sacks 1 maybe;");
            posts.sight(2, 1, 0);
            came(due, "at the second post: n did not come", posts, 0, 2, 0, 2);
            posts.sight(13, 0, 1);
            came(due, "at both posts: m alone", posts, 0, 1, 1, 2);
            posts.sight(3, 1, 2);
            came(due, "at the second post it can't be", posts, 0, 0, 0, 0);
            String full = "bird a counts 2 gap 9;bird b counts 2 gap 9;bird c counts 2 gap 9;bird d counts 2 gap 9;bird e counts 2 gap 9;"
                + "post p at 10 toll 1 a;post q at 0 toll 1 b;post r at 0 toll 1 c;post s at 99 toll 1 e d;cart c at 3 sacks 1;cart m at 4 sacks 1 maybe;";
            for (int bird = 0; bird < 5; bird++) {
                CrowToll x = Due.on(full);
                x.sight(720, bird, bird == 3 ? 0 : 1);
                // e sits ahead of d and counts both, so that d tells nothing
                came(due, "as many birds and posts as can be, " + bird, x, 0, bird == 3 ? 2 : 1, 0, bird == 3 ? 0 : 2);
            }
            came(due, "more than can be", seen(720, 0, 20), 0, 0, 0, 0);
            // n begins anew: the count is not how many were counted in all
            came(due, "behind a silence", seen(720, 0, 1), 0, 3, 0, 0);
            for (int count : new int[] {-1, 21, FAR[0], FAR[1]}) {
                Twins.nothing(due, "sight(0, 0, " + count + ")", t -> t.sight(0, 0, count), -1);
            }
        });
    }

    private static void known(Book book) {
        book.holds("Part 4", "As known at k those count that were TOLD at k or before, not UNTOLD at k or before.", due -> {
            CrowToll x = Due.on(ROAD);
            x.later(5);
            x.sight(13, 0, 2);
            x.later(5);
            x.untell(0);
            for (int k : new int[] {FAR[0], -1, 0, 4, 10, 11, 100000, 100001, FAR[1]}) {
                came(due, "not told yet, or untold", x, k, 4, 0, 0);
            }
            for (int k = 5; k < 10; k++) {
                came(due, "told", x, k, 2, M, 0);
            }
            CrowToll late = Due.on(ROAD);
            for (int i = 0; i < 100; i++) {
                late.later(1000);
            }
            late.sight(13, 0, 2);
            came(due, "before the last time", late, 99999, 4, 0, 0);
            came(due, "at the last time", late, 100000, 2, M, 0);
            came(due, "behind it", late, FAR[1], 2, M, 0);
        });
    }

    private static String twelveMaybe() {
        StringBuilder s = new StringBuilder("bird a counts 20 gap 99;post p at 0 toll 1 a;");
        for (int i = 0; i < 12; i++) {
            s.append("cart ").append((char) ('a' + i)).append(" at ").append(i).append(" sacks 1 maybe;");
        }
        return s.toString();
    }

    private static void came(Book book) {
        book.holds("Part 4", "CAME: sets of maybe CARTS (as bits by their numbers) by which, with all others told (none more, BIRDS as told), all that count are so.", due -> {
            CrowToll x = seen(13, 0, 1);
            came(due, "m did not come", x, 0, 2, 0, M);
            x.doubt(1);
            x.come(3, 1);
            x.come(4, 1);
            x.learn(0, -1);
            came(due, "what is so in earnest does not count", x, 0, 2, 0, M);
            x.image(0);
            x.back(0);
            came(due, "nor what was kept", x, 0, 2, 0, M);
            came(due, "no maybe ones and no sights", Due.on("cart c at 1 sacks 1;"), 0, 1, 0, 0);
            CrowToll y = seen(30, 0, 2);
            came(due, "m alone", y, 0, 1, M, N);
            y.untell(0);
            came(due, "nothing seen", y, 0, 4, 0, 0);
            y.sight(30, 0, 2);
            came(due, "m alone again", y, 0, 1, M, N);
        });
        book.holds("Part 4", "How many; those that are in all, in none.", due -> {
            came(due, "of twelve", Due.on(twelveMaybe()), 0, 4096, 0, 0);
            for (int count : new int[] {0, 1, 11, 12, 13}) {
                CrowToll x = Due.on(twelveMaybe());
                x.sight(720, 0, count);
                int sets = count == 0 || count == 12 ? 1 : count == 13 ? 0 : 12;
                came(due, "twelve, count " + count, x, 0, sets, count == 12 ? 4095 : 0, count == 0 ? 4095 : 0);
            }
            CrowToll last = Due.on(twelveMaybe());
            last.sight(10, 0, 0);
            last.sight(11, 0, 1);
            came(due, "the twelfth alone", last, 0, 1, 2048, 2047);
        });
        book.holds("Part 4", "`NONE = -1`: There is none.", due -> due.is("NONE", CrowToll.NONE, -1));
    }

    private static void promise22(Book book) {
        book.holds("Promise 22", "A SIGHT: its number; NONE, doing nothing, if one can't be,", due -> {
            for (int bird : new int[] {-1, 3, 5, FAR[0], FAR[1]}) {
                Twins.nothing(due, "sight(0, " + bird + ", 0)", x -> x.sight(0, bird, 0), -1);
            }
            due.is("without birds", new CrowToll().sight(0, 0, 0), -1);
            int[][] some = {{0, 0, 0}, {720, 0, 0}, {0, 2, 0}, {0, 0, 20}, {720, 2, 20}};
            for (int[] s : some) {
                CrowToll x = Twins.busy();
                due.is("sight(" + s[0] + ", " + s[1] + ", " + s[2] + ")", x.sight(s[0], s[1], s[2]), 3);
                due.is("four of them", x.about(5), 4);
                due.is("no act", x.about(3), 2);
            }
        });
        book.holds("Promise 22", "or there are 30.", due -> {
            due.is("the 30th", with(29).sight(0, 0, 0), 29);
            Twins.nothing(due, "the 31st", () -> with(30), x -> x.sight(0, 0, 0), -1);
        });
    }

    private static void promise23(Book book) {
        book.holds("Promise 23", "It is UNTOLD: true; false if it is so already, or there is none such.", due -> {
            due.is("untell(0)", Twins.busy().untell(0), true);
            due.is("untell(2)", Twins.busy().untell(2), true);
            for (int sight : new int[] {1, 3, -1, 30, FAR[0], FAR[1]}) {
                Twins.nothing(due, "untell(" + sight + ")", x -> x.untell(sight) ? 1 : 0, 0);
            }
            // untold at 2, asked again at 3: it stays untold since 2
            CrowToll x = Twins.busy();
            x.later(1);
            int before = x.came(0, 2);
            due.is("untell(1) later", x.untell(1), false);
            due.is("as known before", x.came(0, 2), before);
            due.is("the last of 30", with(30).untell(29), true);
        });
    }

    private static CrowToll at(int time) {
        CrowToll x = Twins.busy();
        for (int left = time - x.about(6); left > 0; left -= 1000) {
            x.later(Math.min(1000, left));
        }
        return x;
    }

    private static void promise24(Book book) {
        book.holds("Promise 24", "So much later (0 .. 1000): the TIME;", due -> {
            CrowToll x = new CrowToll();
            due.is("later(0)", x.later(0), 0);
            due.is("later(1000)", x.later(1000), 1000);
            due.is("later(1)", x.later(1), 1001);
            due.is("about(6)", x.about(6), 1001);
        });
        book.holds("Promise 24", "NONE, doing nothing, for another number, or if it would be above 100,000.", due -> {
            for (int by : new int[] {-1, 1001, FAR[0], FAR[1]}) {
                Twins.nothing(due, "later(" + by + ")", x -> x.later(by), -1);
            }
            due.is("just 100,000", at(99000).later(1000), 100000);
            Twins.nothing(due, "one above", () -> at(99001), x -> x.later(1000), -1);
            Twins.nothing(due, "later(1) at 100,000", () -> at(100000), x -> x.later(1), -1);
            due.is("later(0) at 100,000", at(100000).later(0), 100000);
            due.is("the time", at(100000).about(6), 100000);
        });
    }

    private static void promise25(Book book) {
        book.holds("Promise 25", "CAME what 0: how many sets, 1: CARTS in all, 2: maybe CARTS in none, as bits (0 without sets);", due -> {
            came(due, "m alone", seen(13, 0, 2, 30, 0, 2), 0, 1, M, N);
            came(due, "both", seen(13, 0, 2, 30, 0, 1), 0, 1, M | N, 0);
            came(due, "neither, or n: c is no maybe one", seen(13, 0, 1), 0, 2, 0, M);
            came(due, "without sets", seen(13, 0, 0), 0, 0, 0, 0);
            came(due, "of a new object", new CrowToll(), 0, 1, 0, 0);
        });
        book.holds("Promise 25", "NONE for another what.", due -> {
            for (int what : new int[] {-1, 3, FAR[0], FAR[1]}) {
                Twins.nothing(due, "came(" + what + ", 0)", x -> x.came(what, 0), -1);
            }
        });
    }

    private static void promise26(Book book) {
        book.holds("Promise 26", "CARTS, how far BIRDS count are kept in a BOX 0 .. 2: how many CARTS;", due -> {
            CrowToll x = new CrowToll();
            due.is("of no carts", x.image(0), 0);
            x.come(1, 1);
            due.is("of one", x.image(1), 1);
            for (int i = 1; i < 24; i++) {
                x.come(i, 1);
            }
            due.is("of 24", x.image(2), 24);
            due.is("back(0)", x.back(0), 0);
            due.is("back(2)", x.back(2), 24);
            due.is("its last cart", x.cart(23, 0), 23);
            due.is("back(1)", x.back(1), 1);
            due.is("over what was there", x.image(2), 1);
            due.is("back(0) again", x.back(0), 0);
            due.is("back(2) then", x.back(2), 1);
        });
        book.holds("Promise 26", "NONE if there is none such.", due -> {
            for (int box : new int[] {-1, 3, FAR[0], FAR[1]}) {
                Twins.nothing(due, "image(" + box + ")", x -> x.image(box), -1);
            }
        });
    }

    private static void promise27(Book book) {
        book.holds("Promise 27", "All is as it was kept (no ACTS are kept then): how many CARTS;", due -> {
            CrowToll x = Twins.busy();
            due.is("back(2)", x.back(2), 6);
            due.is("f comes", x.cart(3, 2), 1);
            due.is("a counts", x.bird(0, 0), 3);
            due.is("its last cart", x.cart(5, 0), 12);
            due.is("its sacks", x.cart(5, 1), 5);
            due.is("its pay", x.pays(5, 0), 6);
            due.is("none to undo", x.undo(), false);
            due.is("none to redo", x.redo(), false);
            due.is("about(3)", x.about(3), 0);
            due.is("about(4)", x.about(4), 0);
            due.is("sights stay", x.about(5), 3);
            due.is("the tape stays", x.about(7), 7);
            due.is("what lies there stays", x.about(9), 2);
            due.is("back(0)", x.back(0), 5);
            due.is("f does not come", x.cart(3, 2), 0);
            due.is("a counts as told", x.bird(0, 0), 2);
            due.is("f is not counted", x.counter(3, 0), -1);
            due.is("the income is that of the day", x.income(-1), 7);
            due.is("gone on from", x.come(9, 9), 5);
            CrowToll y = Due.on("bird a counts 1 gap 9;post p at 0 toll 1 a;cart c at 0 sacks 1;cart d at 1 sacks 1;");
            y.image(0);
            y.learn(0, 1);
            due.is("d is counted", y.counter(1, 0), 0);
            y.back(0);
            due.is("d is not counted, as when it was kept", y.counter(1, 0), -1);
            due.is("nor does it pay", y.income(-1), 1);
            due.is("an act", x.about(3), 1);
            due.is("the box has what was kept", x.back(0), 5);
            due.is("the other box too", x.back(2), 6);
            due.is("its last cart's minute", x.cart(5, 0), 12);
            due.is("its last cart's sacks", x.cart(5, 1), 5);
        });
        book.holds("Promise 27", "NONE, doing nothing, if nothing was.", due -> {
            for (int box : new int[] {1, -1, 3, FAR[0], FAR[1]}) {
                Twins.nothing(due, "back(" + box + ")", x -> x.back(box), -1);
            }
        });
    }

    private static void promise28(Book book) {
        book.holds("Promise 28", "What 0: BIRDS, 1: POSTS, 2: CARTS in earnest, 3: ACTS that can be undone, 4: redone, 5: SIGHTS, 6: the TIME, "
            + "7: bytes on the TAPE, 8: units of the law, 9: numbers that lie there.", due -> {
            CrowToll x = Twins.busy();
            int[] want = {3, 2, 6, 2, 2, 3, 2, 7, 2, 2};
            for (int i = 0; i < want.length; i++) {
                due.is("about(" + i + ")", x.about(i), want[i]);
                due.is("about(" + i + ") of a new object", new CrowToll().about(i), 0);
            }
        });
        book.holds("Promise 28", "NONE for another what.", due -> {
            for (int what : new int[] {-1, 10, FAR[0], FAR[1]}) {
                Twins.nothing(due, "about(" + what + ")", x -> x.about(what), -1);
            }
        });
    }
}
