/** The boundaries that the document names for the ROAD and its FAULTS, and promises 1 to 5. */
final class RoadBounds {
    private static final String[] OWN_WORDS = {"bird", "counts", "gap", "takes", "post", "at", "toll", "cart", "sacks", "maybe", "law", "or",
        "and", "not", "nth"};
    private static final String BIRD = "bird a counts 1 gap 1;";
    private static final int BLANKS = 0x20202020;

    private RoadBounds() { }

    static void tell(Book book) {
        text(book);
        words(book);
        numbersAndSigns(book);
        howMany(book);
        ranges(book);
        posts(book);
        law(book);
        places(book);
        faults(book);
        promise1(book);
        promise2(book);
        promise3(book);
        promise4(book);
        promise5(book);
    }

    private static void text(Book book) {
        book.holds("Terms", "A ROAD is a text of at most 1,600 bytes", due -> {
            String ahead = " ".repeat(1580);
            CrowToll x = new CrowToll();
            Due.lay(x, ahead + "cart c at 7 sacks 9;");
            due.is("bytes", x.about(7), 1600);
            due.is("a road of 1,600 bytes", x.road(), 1);
            due.is("its last line counts", x.cart(0, 1), 9);
            due.fault(ahead + "cart c at 7 sacks 9 !", 2);
            due.fault(ahead + "cart c at 7 sacks 9!" + (char) 200, 1);
            due.fault(ahead + " cart c at 7 sacks 9!", 2);
            due.fault(ahead + "cart c at 7 sacks !9a", 1);
            due.fault(ahead + " bird a counts 1 gap!", 2);
        });
        book.holds("Terms", "(empty at first): road = {line}.", due -> {
            due.is("no byte at first", new CrowToll().about(7), 0);
            due.good("", " ", "\n", "law 1;", "cart c at 1 sacks 1;law 1;bird a counts 1 gap 1;");
            due.fault("!a", 2);
            due.fault("law 1;!;", 2);
        });
    }

    private static void words(Book book) {
        book.holds("Terms", "words (a .. z, 8 at most)", due -> {
            due.good("cart abcdefgh at 1 sacks 1;cart ijklmnop at 1 sacks 1;cart qrstuvwx at 1 sacks 1;cart yz at 1 sacks 1;");
            due.good("cart aaaaaaaa at 1 sacks 1;cart aaaaaaab at 1 sacks 1;cart baaaaaaa at 1 sacks 1;cart aaaaaaa at 1 sacks 1;");
            due.fault("cart !abcdefghi at 1 sacks 1;", 1);
            due.fault("cart !" + "z".repeat(1000) + " at 1 sacks 1;", 1);
            due.fault("!sackssacks", 1);
            due.fault("cart a!` at 1 sacks 1;", 1);
            due.fault("cart z!{ at 1 sacks 1;", 1);
            due.fault("cart !A at 1 sacks 1;", 1);
            due.fault("cart a!Z at 1 sacks 1;", 1);
        });
        book.holds("Terms", "each is as long as can be", due -> {
            due.fault("!birda counts 1 gap 1;", 2);
            due.fault("!aird a counts 1 gap 1;", 2);
            due.fault("!bire a counts 1 gap 1;", 2);
            due.fault("!bir a counts 1 gap 1;", 2);
            due.fault("law !notnth;", 2);
            due.fault("law nth !andnth;", 2);
            due.fault("cart c at 1 sacks 1 !maybed;", 2);
            due.is("law 12", pays("law 12;"), 12);
            due.fault("law 1 !2;", 2);
        });
        book.holds("Terms", "no letter directly behind an N.", due -> {
            due.fault("law !1or 2;", 1);
            due.fault("law !1a;", 1);
            due.fault("law !1z;", 1);
            due.fault("cart c at 1 sacks !1maybe;", 1);
            due.good("law 1 or 2;", "law 1\nor 2;", "law (1)or 2;", "cart c at1 sacks1;", "law not0;");
            due.fault("law nth!2;", 2);
            due.fault("law 1!A;", 1);
        });
        book.holds("Terms", "Words that stand for themselves here are no NAMES.", due -> {
            for (String word : OWN_WORDS) {
                due.fault("bird !" + word + " counts 1 gap 1;", 2);
                due.fault("post !" + word + " at 1 toll 1;", 2);
                due.fault("cart !" + word + " at 1 sacks 1;", 2);
                due.fault("post p at 1 toll 1 !" + word + ";", 2);
                if (word.length() < 8) {
                    due.good("cart " + word + "x at 1 sacks 1;cart x" + word + " at 1 sacks 1;");
                }
            }
            due.good("cart e at 1 sacks 1;cart n at 1 sacks 1;cart name at 1 sacks 1;cart line at 1 sacks 1;cart road at 1 sacks 1;");
        });
    }

    private static void numbersAndSigns(Book book) {
        book.holds("Terms", "N (1 to 4 digits)", due -> {
            due.is("law 0", pays("law 0;"), 0);
            due.is("law 9999", pays("law 9999;"), 9999);
            due.is("law 0009", pays("law 0009;"), 9);
            due.fault("law !10000;", 1);
            due.fault("law !00001;", 1);
            due.fault("law !" + "9".repeat(1000) + ";", 1);
            due.fault("cart c at !00001 sacks 1;", 1);
            due.good("cart c at 0001 sacks 0001;");
            due.fault("law 9!:;", 1);
        });
        book.holds("Terms", "signs ; ( ) < > = + - * / %", due -> {
            due.good("law(1<2)+(3>2)-(1=1)*4/2%2;");
            for (int b = 0; b < 256; b++) {
                String sign = String.valueOf((char) b);
                if (sign.matches("[<>=+*/%-]")) {
                    due.fault("!" + sign, 2);
                    due.fault("law 1 " + sign + "!", 2);
                } else if (sign.matches("[a-z0-9()]")) {
                    due.fault("!" + sign, 2);
                    due.fault("law 1 !" + sign, 2);
                } else if (!sign.matches("[; \n]")) {
                    due.fault("!" + sign, 1);
                    due.fault("law 1 !" + sign, 1);
                }
            }
        });
        book.holds("Terms", "blanks (32, 10) part them or not", due -> {
            due.good(" bird\na  counts\n\n1 gap 1 ; ", "law(1);", "bird a counts1 gap1;cart c at1 sacks1 maybe;law(1)and(2);");
            for (int b : new int[] {0, 9, 11, 12, 13, 28, 31, 33, 127, 128, 133, 160, 255}) {
                due.road("law" + (char) b + "1;", 1, 3);
            }
        });
    }

    private static String lines(String head, String tail, int n) {
        StringBuilder s = new StringBuilder();
        for (int i = 0; i < n; i++) {
            s.append(head).append(' ').append((char) ('a' + i)).append(' ').append(tail).append(';');
        }
        return s.toString();
    }

    private static void howMany(Book book) {
        book.holds("Terms", "At most 5 BIRDS", due -> {
            due.is("five birds", Due.on(lines("bird", "counts 1 gap 1", 5)).about(0), 5);
            due.fault(lines("bird", "counts 1 gap 1", 5) + "!bird z counts 1 gap 1;", 2);
        });
        book.holds("Terms", "4 POSTS", due -> {
            due.is("four posts", Due.on(lines("post", "at 1 toll 1", 4)).about(1), 4);
            due.fault(lines("post", "at 1 toll 1", 4) + "!post z at 1 toll 1;", 2);
        });
        book.holds("Terms", "12 CARTS", due -> {
            due.is("twelve carts", Due.on(lines("cart", "at 1 sacks 1", 12)).about(2), 12);
            due.fault(lines("cart", "at 1 sacks 1", 12) + "!cart z at 1 sacks 1;", 2);
        });
        book.holds("Terms", "numbered as told, each sort by itself", due -> {
            CrowToll x = Due.on("cart d at 7 sacks 3;bird d counts 4 gap 1;post d at 1 toll 2 d;cart c at 5 sacks 6;bird c counts 9 gap 1;");
            due.is("the first cart", x.cart(0, 0), 7);
            due.is("the second cart", x.cart(1, 0), 5);
            due.is("the first bird", x.bird(0, 0), 4);
            due.is("the second bird", x.bird(1, 0), 9);
            due.is("no third one", x.bird(2, 0), -1);
        });
    }

    /** A number of a line from one end of what can be to the other, and beyond both. */
    private static void range(Due due, String ahead, int least, int most, String behind) {
        due.good(ahead + least + behind, ahead + most + behind);
        due.fault(ahead + "!" + (most + 1) + behind, 4);
        due.fault(ahead + "!9999" + behind, 4);
        if (least > 0) {
            due.fault(ahead + "!" + (least - 1) + behind, 4);
        }
    }

    private static void ranges(Book book) {
        book.holds("Terms", "counts 1 .. 20", due -> range(due, "bird a counts ", 1, 20, " gap 1;"));
        book.holds("Terms", "gap 1 .. 99", due -> range(due, "bird a counts 1 gap ", 1, 99, ";"));
        book.holds("Terms", "takes 0 .. 9; 0)", due -> {
            range(due, "bird a counts 1 gap 1 takes ", 0, 9, ";");
            String carts = "post p at 0 toll 1 a;cart c at 1 sacks 1;cart d at 1 sacks 1;cart e at 2 sacks 1;";
            due.is("takes 0 if it is not told", Due.on("bird a counts 9 gap 9;" + carts).bird(0, 3), 2);
            due.is("takes 0", Due.on("bird a counts 9 gap 9 takes 0;" + carts).bird(0, 3), 2);
            CrowToll x = Due.on("bird a counts 9 gap 9 takes 1;" + carts);
            due.is("takes 1", x.bird(0, 3), 1);
            Due.lay(x, "bird a counts 9 gap 9;" + carts);
            due.is("the next road", x.road(), 3);
            due.is("takes 0 there, whatever was told before", x.bird(0, 3), 2);
        });
        book.holds("Terms", "MINUTES from the beginning of the road 0 .. 99;", due -> range(due, "post p at ", 0, 99, " toll 1;"));
        book.holds("Terms", "toll 0 .. 99;", due -> range(due, "post p at 1 toll ", 0, 99, ";"));
        book.holds("Terms", "(they set out at a MINUTE 0 .. 600,", due -> range(due, "cart c at ", 0, 600, " sacks 1;"));
        book.holds("Terms", "with 1 .. 99 sacks;", due -> range(due, "cart c at 1 sacks ", 1, 99, ";"));
        book.holds("Terms", "maybe: it is not known whether it comes", due -> {
            CrowToll x = Due.on("cart c at 1 sacks 1 maybe;cart d at 1 sacks 1;");
            due.is("c is maybe", x.cart(0, 3), 1);
            due.is("d is not", x.cart(1, 3), 0);
            due.fault("cart c at 1 sacks 1 maybe !maybe;", 2);
            due.fault("cart c at 1 !maybe sacks 1;", 2);
        });
    }

    private static void posts(Book book) {
        book.holds("Terms", "BIRDS told ahead that sit there, in this order, each at one POST at most)", due -> {
            String five = lines("bird", "counts 1 gap 99", 5);
            CrowToll x = Due.on(five + "post p at 0 toll 1 e b d a c;" + "cart a at 0 sacks 1;cart b at 1 sacks 1;cart c at 2 sacks 1;"
                + "cart d at 3 sacks 1;cart e at 4 sacks 1;cart f at 5 sacks 1;");
            int[] order = {4, 1, 3, 0, 2, -1};
            for (int i = 0; i < order.length; i++) {
                due.is("who counts cart " + i, x.counter(i, 0), order[i]);
            }
            due.fault("post p at 1 toll 1 !a;" + BIRD, 5);
            due.fault(BIRD + "post p at 1 toll 1 a !a;", 3);
            due.fault(BIRD + "post p at 1 toll 1 a;post q at 1 toll 1 !a;", 3);
            due.fault(five + "post p at 1 toll 1 a b c d e !c;", 3);
            due.good("post p at 1 toll 1;" + BIRD + "post q at 1 toll 1 a;");
        });
    }

    private static int pays(String law) {
        return Due.on("bird a counts 9 gap 9;post p at 3 toll 7 a;cart c at 1 sacks 5;" + law).pays(0, 0);
    }

    private static void law(Book book) {
        book.holds("Terms", "law once", due -> {
            due.good("law 1;");
            due.fault("law 1;!law 1;", 2);
            due.fault("law 1;" + BIRD + "!law", 2);
        });
        book.holds("Terms", "(30 units;", due -> {
            due.is("thirty units", Due.on("law 1" + "+1".repeat(29) + ";").about(8), 30);
            due.is("what comes of them", pays("law 1" + "+1".repeat(29) + ";"), 30);
            due.fault("law 1" + "+1".repeat(29) + "+!1;", 2);
            due.is("( e ) is a unit too", Due.on("law (1)" + "+(1)".repeat(14) + ";").about(8), 30);
            due.fault("law (1)" + "+(1)".repeat(14) + "+!(1);", 2);
            due.fault("law nth" + "+sacks".repeat(28) + "+(!toll);", 2);
            String seven = "not not not not not not not ";
            String longest = (seven + "0 and ").repeat(29) + seven;
            due.is("thirty, each behind seven times not", pays("law " + longest + "0;"), 1);
            due.is("the last of them counts", pays("law " + longest + "1;"), 0);
        });
        book.holds("Terms", "a unit ( e ), or a one behind not, within 6 others at most)", due -> {
            due.is("seven brackets", pays("law (((((((5)))))));"), 5);
            due.is("seven times not", pays("law not not not not not not not 5;"), 0);
            due.is("both, seven in all", pays("law not (not (not (not 5)));"), 1);
            due.is("side by side they are not within one another", pays("law (((((((5))))))) + (((((((6)))))));"), 11);
            due.is("and so with not", pays("law not not not not not not not 0 and not ((((((0))))));"), 1);
            due.fault("law (((((((!(5))))))));", 2);
            due.fault("law not not not not not not not !not 5;", 2);
            due.fault("law not not not not not not not !(5);", 2);
            due.fault("law (((((((!not 5)))))));", 2);
            due.fault("law not 1 + ((((((!(5)))))));", 2);
        });
    }

    private static void places(Book book) {
        book.holds("Terms", "FAULTS, the first by its place (bytes from 0; the end: the text's length)", due -> {
            due.fault("!" + (char) 0, 1);
            due.fault("bird a counts !21 gap 0;\t", 4);
            due.fault("bird a counts 1 gap !0;\t", 4);
            due.fault("bird a counts 1 gap 1;!\tlaw", 1);
            due.fault("post p at 1 toll 1 !a a \t", 5);
            due.fault("bird!", 2);
            due.fault("bird \n !", 2);
            due.fault("law (1)!", 2);
            due.fault("law (1 +!", 2);
            due.fault("post p at 1 toll 1!", 2);
        });
        book.holds("Terms", "at one place the least", due -> {
            due.fault("bird a counts !00021 gap 1;", 1);
            due.fault("bird a counts !99gap 1;", 1);
            due.fault("bird !abcdefghi counts", 1);
            due.fault("post p at 1 toll 1 !abcdefghi;", 1);
            due.fault("law 1" + "+1".repeat(29) + "+!\t;", 1);
            due.fault("law 1 !9999;", 2);
            due.fault("post p at 1 toll 1 !100;", 2);
            due.fault(lines("bird", "counts 1 gap 1", 5) + "!bird a counts 0 gap 0;", 2);
        });
    }

    private static void faults(Book book) {
        book.holds("Terms", "1 no TOKEN;", due -> {
            due.fault("law 1 !& 2;", 1);
            due.fault("law 1 <!! 2;", 1);
            due.fault("law 1!.5;", 1);
        });
        book.holds("Terms", "2 one that can't stand there", due -> {
            due.fault("law 1 < 2 !< 3;", 2);
            due.fault("law 1 = 2 !> 3;", 2);
            due.fault("law 1 + 2 !3;", 2);
            due.fault("law 1 * nth !nth;", 2);
            due.fault("law 1 < !not 2;", 2);
            due.fault("law 1 + !not 2;", 2);
            due.fault("law !- 1;", 2);
            due.fault("law 1 !);", 2);
            due.fault("law 1 or !or 1;", 2);
            for (String line : new String[] {"bird a counts 1 gap 1 takes 1 ;", "cart c at 1 sacks 1 maybe ;", "post p at 1 toll 1 ;",
                "law not ( 1 + 2 ) < 3 and nth or toll ;"}) {
                due.good(line);
                String[] tokens = line.split(" ");
                String ahead = "";
                for (int i = 0; i < tokens.length; i++) {
                    // a second sign of the line's end can stand nowhere but in its place, and the end of all nowhere in a line
                    if (i < tokens.length - 1) {
                        due.fault(ahead + (i == 0 ? "!;" : "!" + (endable(line, i) ? ")" : ";")), 2);
                    }
                    if (i > 0) {
                        due.fault(ahead + "!", 2);
                    }
                    ahead += tokens[i] + " ";
                }
            }
        });
        book.holds("Terms", "(one of a sort too many or a second time: at the line's first word;", due -> {
            due.fault(lines("bird", "counts 1 gap 1", 5) + " !bird", 2);
            due.fault(lines("post", "at 1 toll 1", 4) + " !post\t", 2);
            due.fault(lines("cart", "at 1 sacks 1", 12) + " !cart a", 2);
            due.fault("law 1; !law (((((((((", 2);
        });
        book.holds("Terms", "a unit too many, what is within 7 others: at its first TOKEN, or the not)", due -> {
            due.fault("law 1" + "*1".repeat(29) + "* !(1);", 2);
            due.fault("law 1" + "*1".repeat(29) + "* !nth;", 2);
            due.fault("law ((((((( !( 5))))))));", 2);
            due.fault("law ((((((( !not 5)))))));", 2);
            due.fault("law not not not not not not not !not", 2);
        });
        book.holds("Terms", "3 a NAME told already (of its sort), a BIRD that sits already;", due -> {
            due.fault(BIRD + "bird !a counts 1 gap 1;", 3);
            due.fault("post a at 1 toll 1;post !a at 1 toll 1;", 3);
            due.fault(lines("cart", "at 1 sacks 1", 11) + "cart !k at 1 sacks 1;", 3);
            due.good(BIRD + "post a at 1 toll 1 a;cart a at 1 sacks 1;");
            due.fault(BIRD + "post p at 1 toll 1 a !a;", 3);
        });
        book.holds("Terms", "4 a number that can't be;", due -> {
            due.fault("bird a counts !0000 gap 1;", 4);
            due.fault("cart c at !0601 sacks 1;", 4);
            due.fault("cart c at 600 sacks !100", 4);
        });
        book.holds("Terms", "5 a NAME that no BIRD has.", due -> {
            due.fault("post p at 1 toll 1 !p;", 5);
            due.fault(BIRD + "post p at 1 toll 1 a !aa;", 5);
            due.fault("cart c at 1 sacks 1;post p at 1 toll 1 !c;", 5);
            due.fault("post p at 1 toll 1 !a;" + BIRD, 5);
        });
    }

    /** Where a line may end ahead of its last sign. */
    private static boolean endable(String line, int token) {
        return line.startsWith("bird") && token == 6 || line.startsWith("cart") && token == 6
            || line.startsWith("law") && (token == 7 || token == 9 || token == 11);
    }

    private static void promise1(Book book) {
        book.holds("Promise 1", "An empty ROAD.", due -> {
            CrowToll x = new CrowToll();
            for (int i = 0; i <= 9; i++) {
                due.is("about(" + i + ")", x.about(i), 0);
            }
            due.is("fault(0)", x.fault(0), 0);
            due.is("fault(1)", x.fault(1), -1);
            due.is("income(-1)", x.income(-1), 0);
            due.is("income(0)", x.income(0), -2);
            due.is("cart(0, 0)", x.cart(0, 0), -1);
            due.is("bird(0, 0)", x.bird(0, 0), -1);
            due.is("counter(0, 0)", x.counter(0, 0), -2);
            due.is("undo()", x.undo(), false);
            due.is("redo()", x.redo(), false);
            due.is("lies(0)", x.lies(0), -1);
            due.is("untell(0)", x.untell(0), false);
            for (int box = 0; box < 3; box++) {
                due.is("back(" + box + ")", x.back(box), -1);
            }
            due.is("came(0, 0)", x.came(0, 0), 1);
            due.is("rest()", x.rest(), 1);
            due.is("teach(0)", x.teach(0), 0);
            due.is("seats()", x.seats(), -1);
        });
    }

    private static void promise2(Book book) {
        book.holds("Promise 2", "Twenty bytes come behind those on the TAPE, of each number the highest first: how many there are;", due -> {
            CrowToll x = new CrowToll();
            // "cart c at 12 sacks 3" and the sign of the line's end alone
            due.is("twenty", x.feed(0x63617274, 0x20632061, 0x74203132, 0x20736163, 0x6B732033), 20);
            due.is("forty", x.feed(0x3B202020, BLANKS, BLANKS, BLANKS, BLANKS), 40);
            due.is("a road", x.road(), 1);
            due.is("its minute", x.cart(0, 0), 12);
            due.is("its sacks", x.cart(0, 1), 3);
            due.is("bytes of the least and greatest numbers", x.feed(-1, Integer.MIN_VALUE, Integer.MAX_VALUE, 0, 1), 20);
            due.is("they are no road", x.road(), -1);
            due.is("byte 255", x.fault(0), 1);
        });
        book.holds("Promise 2", "NONE, and nothing comes, if there would be more than 1,600.", due -> {
            CrowToll x = new CrowToll();
            for (int i = 1; i <= 80; i++) {
                due.is("feed " + i, x.feed(BLANKS, BLANKS, BLANKS, BLANKS, BLANKS), 20 * i);
            }
            due.is("the 81st", x.feed(1, 1, 1, 1, 1), -1);
            due.is("nothing came", x.about(7), 1600);
            due.is("one byte less", x.end(1599), 1599);
            due.is("that is not enough", x.feed(1, 1, 1, 1, 1), -1);
            due.is("nothing came again", x.about(7), 1599);
            due.is("19 less", x.end(1581), 1581);
            due.is("that is not enough either", x.feed(1, 1, 1, 1, 1), -1);
            due.is("20 less", x.end(1580), 1580);
            due.is("that is", x.feed(BLANKS, BLANKS, BLANKS, BLANKS, BLANKS), 1600);
            due.is("blanks alone", x.road(), 0);
        });
    }

    private static void promise3(Book book) {
        book.holds("Promise 3", "The TAPE has its first n bytes: n;", due -> {
            CrowToll x = new CrowToll();
            Due.lay(x, "law 123;law 4;law 56");
            due.is("end(20)", x.end(20), 20);
            due.is("end(8)", x.end(8), 8);
            due.is("its first 8", x.road(), 0);
            due.is("one unit", x.about(8), 1);
            Due.lay(x, "law 123;law 4;law 56");
            x.end(5);
            due.is("what is behind its end is not read", x.road(), -1);
            due.is("nor what stands directly there", x.fault(0), 2);
            due.is("the place of the end", x.fault(1), 5);
            Due.lay(x, "law nth;law 4;law 56");
            x.end(5);
            x.road();
            due.is("nor a word's rest", x.fault(1), 4);
            Due.lay(x, "law 1x;             ");
            x.end(5);
            x.road();
            due.is("nor a letter", x.fault(0), 2);
            Due.lay(x, "law 123;law 4;law 56");
            due.is("end(0)", x.end(0), 0);
            due.is("none left", x.about(7), 0);
        });
        book.holds("Promise 3", "NONE, doing nothing, if it has not so many, or n is below 0.", due -> {
            CrowToll x = new CrowToll();
            due.is("end(1) of an empty tape", x.end(1), -1);
            due.is("end(-1) of an empty tape", x.end(-1), -1);
            due.is("end(0) of an empty tape", x.end(0), 0);
            x.feed(BLANKS, BLANKS, BLANKS, BLANKS, BLANKS);
            for (int n : new int[] {-1, 21, 1600, Integer.MIN_VALUE, Integer.MAX_VALUE}) {
                due.is("end(" + n + ")", x.end(n), -1);
                due.is("nothing done", x.about(7), 20);
            }
            x.end(5);
            due.is("what was cut off does not come again", x.end(6), -1);
        });
    }

    private static CrowToll busy() {
        CrowToll x = Due.on("bird a counts 2 gap 5;post p at 1 toll 4 a;cart c at 3 sacks 2 maybe;law nth + 1;");
        x.later(7);
        x.doubt(0);
        x.learn(0, 3);
        x.undo();
        x.come(9, 9);
        x.come(8, 8);
        x.undo();
        x.sight(5, 0, 0);
        x.image(0);
        x.image(1);
        x.image(2);
        x.teach(1);
        return x;
    }

    private static void abouts(Due due, String when, CrowToll x, int... all) {
        for (int i = 0; i < all.length; i++) {
            due.is(when + ", about(" + i + ")", x.about(i), all[i]);
        }
    }

    private static void promise4(Book book) {
        book.holds("Promise 4", "The TAPE (empty then) is the ROAD", due -> {
            CrowToll x = busy();
            Due.lay(x, "cart c at 5 sacks 1;cart d at 7 sacks 4 maybe;");
            due.is("a new road", x.road(), 2);
            due.is("an empty tape", x.about(7), 0);
            due.is("which is an empty road", x.road(), 0);
            abouts(due, "an empty road", x, 0, 0, 0, 0, 0, 0, 7, 0, 0, 0);
        });
        book.holds("Promise 4", "(all as told, no ACTS are kept, SIGHTS are none, nothing lies there, BOXES are empty then; the TIME stays)", due -> {
            CrowToll x = busy();
            abouts(due, "before", x, 1, 1, 2, 2, 1, 1, 7, 0, 2, 1);
            Due.lay(x, "bird b counts 3 gap 5;cart d at 7 sacks 4 maybe;");
            due.is("a new road", x.road(), 1);
            abouts(due, "behind", x, 1, 0, 1, 0, 0, 0, 7, 0, 0, 0);
            due.is("as told", x.bird(0, 0), 3);
            due.is("it does not come", x.cart(0, 2), 0);
            due.is("no undo", x.undo(), false);
            due.is("no redo", x.redo(), false);
            due.is("lies(0)", x.lies(0), -1);
            due.is("untell(0)", x.untell(0), false);
            due.is("came(0, 7)", x.came(0, 7), 2);
            for (int box = 0; box < 3; box++) {
                due.is("back(" + box + ")", x.back(box), -1);
            }
            due.is("the time goes on from there", x.later(1), 8);
            Due.lay(x, "bird a counts 3 gap 9;post p at 0 toll 6 a;cart c at 1 sacks 5;law toll + nth;");
            due.is("a road with a law", x.road(), 1);
            due.is("by its law", x.pays(0, 0), 7);
            due.is("a sure cart in a maybe one's place", x.cart(0, 3), 0);
            Due.lay(x, "bird a counts 3 gap 9;post p at 0 toll 8 a;cart c at 1 sacks 5;law toll * 2;");
            due.is("a road with another law", x.road(), 1);
            due.is("by that law", x.pays(0, 0), 16);
            due.is("its units", x.about(8), 2);
            Due.lay(x, "bird a counts 3 gap 9;post p at 0 toll 8 a;cart c at 1 sacks 5;law not 0;");
            x.road();
            due.is("by a third law", x.pays(0, 0), 1);
            Due.lay(x, "bird a counts 3 gap 9;post p at 0 toll 8 a;cart c at 1 sacks 5;law 5;");
            x.road();
            due.is("nothing of a longer law is left", x.pays(0, 0), 5);
            Due.lay(x, "bird a counts 3 gap 9;post p at 0 toll 9;post q at 0 toll 8 a;cart c at 1 sacks 5;");
            due.is("a road without one", x.road(), 1);
            due.is("nobody sits at the first post", x.pays(0, 0), 0);
            due.is("the toll of the second", x.pays(0, 1), 8);
        });
        book.holds("Promise 4", "how many CARTS; NONE: a FAULT (all stays).", due -> {
            due.is("no carts", Due.on(BIRD).about(2), 0);
            CrowToll x = busy();
            Due.lay(x, "bird b counts 3 gap 5;law 5;cart d at 7 sacks 4 maybe;cart");
            due.is("a fault", x.road(), -1);
            abouts(due, "all stays", x, 1, 1, 2, 2, 1, 1, 7, 58, 2, 1);
            due.is("lies(0)", x.lies(0), 1);
            due.is("the bird", x.bird(0, 0), 2);
            due.is("its post", x.bird(0, 1), 0);
            due.is("the law", x.pays(1, 0), 2);
            due.is("the sight", x.came(0, 7), 1);
            due.is("redo", x.redo(), true);
            due.is("its cart", x.cart(2, 1), 8);
            due.is("undo", x.undo(), true);
            for (int box = 0; box < 3; box++) {
                due.is("back(" + box + ")", x.back(box), 2);
            }
            due.is("the tape stays too, so it can be mended", x.end(54), 54);
            due.is("it is a road then", x.road(), 1);
        });
    }

    private static void promise5(Book book) {
        book.holds("Promise 5", "Of the latest road() what 0: its FAULT (0), 1: its place (NONE).", due -> {
            CrowToll x = new CrowToll();
            due.is("fault(0) before any", x.fault(0), 0);
            due.is("fault(1) before any", x.fault(1), -1);
            Due.lay(x, "law 1;;");
            x.road();
            due.is("fault(0)", x.fault(0), 2);
            due.is("fault(1)", x.fault(1), 6);
            Due.lay(x, "\tlaw 1;");
            due.is("till the next road()", x.fault(1), 6);
            x.road();
            due.is("fault(0) of the next", x.fault(0), 1);
            due.is("fault(1) of the next", x.fault(1), 0);
            x.end(0);
            x.road();
            due.is("fault(0) of none", x.fault(0), 0);
            due.is("fault(1) of none", x.fault(1), -1);
        });
        book.holds("Promise 5", "NONE for another what.", due -> {
            CrowToll x = new CrowToll();
            Due.lay(x, ";");
            x.road();
            for (int what : new int[] {-1, 2, 3, Integer.MIN_VALUE, Integer.MAX_VALUE}) {
                due.is("fault(" + what + ")", x.fault(what), -1);
            }
        });
    }
}
