/** Promises 2 to 5: the tape, the road, its faults, and the law that the road tells. */
public final class RoadTest {
    private static final Due DUE = new Due("RoadTest");

    private static void good(String text) {
        DUE.good(text);
    }

    /** A fault at the place of a mark. */
    private static void at(String marked, int which) {
        DUE.fault(marked, which);
    }

    private static void feed() {
        CrowToll x = new CrowToll();
        DUE.is("bytes at first", x.about(7), 0);
        for (int i = 1; i <= 80; i++) {
            DUE.is("feed " + i, x.feed(0x20202020, 0x20202020, 0x20202020, 0x20202020, 0x20202020), 20 * i);
        }
        DUE.is("feed beyond 1600", x.feed(1, 1, 1, 1, 1), -1);
        DUE.is("nothing came", x.about(7), 1600);
        DUE.is("end(1581)", x.end(1581), 1581);
        DUE.is("feed to 1601", x.feed(1, 1, 1, 1, 1), -1);
        DUE.is("end(1580)", x.end(1580), 1580);
        DUE.is("feed to 1600", x.feed(0x20202020, 0x20202020, 0x20202020, 0x20202020, 0x20202020), 1600);
        DUE.is("1600 blanks are a road", x.road(), 0);
        // "law " "255 " and a byte above 127, the highest of each number first
        x.feed(0x6C617720, 0x32353520, 0xFF202020, 0, 0);
        DUE.is("a byte of 255", x.road(), -1);
        DUE.is("its fault", x.fault(0), 1);
        DUE.is("its place", x.fault(1), 8);
    }

    private static void end() {
        CrowToll x = new CrowToll();
        DUE.is("end(0) of an empty tape", x.end(0), 0);
        DUE.is("end(1) of an empty tape", x.end(1), -1);
        x.feed(0, 0, 0, 0, 0);
        DUE.is("end(-1)", x.end(-1), -1);
        DUE.is("end(21)", x.end(21), -1);
        DUE.is("end of the least int", x.end(Integer.MIN_VALUE), -1);
        DUE.is("end of the greatest int", x.end(Integer.MAX_VALUE), -1);
        DUE.is("nothing done", x.about(7), 20);
        DUE.is("end(20)", x.end(20), 20);
        DUE.is("end(3)", x.end(3), 3);
        DUE.is("three left", x.about(7), 3);
    }

    private static void road() {
        CrowToll x = Due.on("bird a counts 2 gap 5;post p at 1 toll 4 a;cart c at 3 sacks 2 maybe;law nth + 1;");
        x.later(7);
        x.doubt(0);
        x.learn(0, 3);
        x.undo();
        x.come(9, 9);
        x.sight(5, 0, 0);
        x.image(2);
        x.teach(1);
        Due.lay(x, "cart c at 5;");
        DUE.is("a fault", x.road(), -1);
        DUE.is("its number", x.fault(0), 2);
        DUE.is("its place", x.fault(1), 11);
        DUE.is("fault(2)", x.fault(2), -1);
        DUE.is("fault(-1)", x.fault(-1), -1);
        int[] stay = {1, 1, 2, 2, 0, 1, 7, 12, 2, 1};
        for (int i = 0; i < stay.length; i++) {
            DUE.is("all stays behind a fault, about(" + i + ")", x.about(i), stay[i]);
        }
        DUE.is("the box stays too", x.back(2), 2);
        x.come(9, 9);
        Due.lay(x, "cart c at 5 sacks 1;cart d at 7 sacks 4 maybe;");
        DUE.is("a new road", x.road(), 2);
        DUE.is("no fault", x.fault(0), 0);
        DUE.is("no place", x.fault(1), -1);
        int[] anew = {0, 0, 2, 0, 0, 0, 7, 0, 0, 0};
        for (int i = 0; i < anew.length; i++) {
            DUE.is("all is as told, about(" + i + ")", x.about(i), anew[i]);
        }
        DUE.is("boxes are empty", x.back(2), -1);
        DUE.is("nothing to undo", x.undo(), false);
        DUE.is("an empty tape is a road", x.road(), 0);
        DUE.is("it has no carts", x.about(2), 0);
    }

    private static void tokens() {
        good("");
        good(" \n ");
        good("bird a counts 1 gap 1;");
        good("bird a counts1 gap1 takes0;");
        good("bird abcdefgh counts 20 gap 99 takes 9;");
        good("bird\na\ncounts 0020 gap 0001\n;\n");
        good("law(1)<(2)and(3)or not(4);");
        good("law 1+2-3*4/5%6;");
        at("bird !abcdefghi counts 1 gap 1;", 1);
        at("bird a counts !00001 gap 1;", 1);
        at("bird a counts !1gap 1;", 1);
        at("bird a counts !99gap 1;", 1);
        at("law !1a;", 1);
        at("law !1z;", 1);
        good("bird b counts 1 gap 1;bird bb counts 1 gap 1;bird a counts 1 gap 1;bird aa counts 1 gap 1;bird aaaaaaaa counts 1 gap 1;");
        at("!\tbird a counts 1 gap 1;", 1);
        at("!Bird a counts 1 gap 1;", 1);
        at("bird a!B counts 1 gap 1;", 1);
        at("bird a counts 1 gap 1!,", 1);
        at("law 1 !& 2;", 1);
        at("law 1 !\r;", 1);
        at("!" + (char) 128, 1);
        at("!" + (char) 0, 1);
    }

    /** What stood behind the end before is not read. */
    private static void cutOff(String text, int n, int which, int place) {
        CrowToll x = new CrowToll();
        Due.lay(x, text);
        x.end(n);
        DUE.is("road() of the first " + n + " of " + text, x.road(), -1);
        DUE.is("fault(0) of the first " + n + " of " + text, x.fault(0), which);
        DUE.is("fault(1) of the first " + n + " of " + text, x.fault(1), place);
    }

    private static void ends() {
        cutOff("law 12;", 5, 2, 5);
        cutOff("law 1x;", 5, 2, 5);
        cutOff("cart ab at 1 sacks 1;", 6, 2, 6);
        cutOff("law 1;", 5, 2, 5);
        cutOff("law 1    ;", 8, 2, 8);
    }

    private static void lines() {
        at("!a", 2);
        at("!;", 2);
        at("!7", 2);
        at("!birds a counts 1 gap 1;", 2);
        at("bird !", 2);
        at("bird   !", 2);
        at("bird !7", 2);
        at("bird !bird counts 1 gap 1;", 2);
        at("bird a !", 2);
        at("bird a !gap 1;", 2);
        at("bird a counts !a", 2);
        at("bird a counts 1 !;", 2);
        at("bird a counts 1 gap 1 takes !;", 2);
        at("bird a counts 1 gap 1 !a;", 2);
        at("bird a counts 1 gap 1!", 2);
        at("bird a counts 1 gap 1 takes!", 2);
        at("post p at 1 !;", 2);
        at("post p at 1 toll 1 !maybe;", 2);
        at("post p at 1 toll 1 !1;", 2);
        at("post p at 1 toll 1!", 2);
        at("cart c at 1 sacks 1 !c;", 2);
        at("cart c at 1 sacks 1 maybe !maybe;", 2);
        at("cart c at 1 !toll 1;", 2);
        for (String word : new String[] {"bird", "counts", "gap", "takes", "post", "at", "toll", "cart", "sacks", "maybe", "law", "or", "and", "not", "nth"}) {
            at("cart !" + word + " at 1 sacks 1;", 2);
        }
        good("cart birds at 1 sacks 1;");
        good("cart no at 1 sacks 1;");
    }

    private static void tooMany() {
        StringBuilder birds = new StringBuilder();
        StringBuilder posts = new StringBuilder();
        StringBuilder carts = new StringBuilder();
        for (int i = 0; i < 12; i++) {
            char n = (char) ('a' + i);
            birds.append(i < 5 ? "bird " + n + " counts 1 gap 1;" : "");
            posts.append(i < 4 ? "post " + n + " at 1 toll 1;" : "");
            carts.append("cart " + n + " at 1 sacks 1;");
        }
        good(birds.toString() + posts + carts);
        at(birds + "!bird a", 2);
        at(posts + "!post z at 1 toll 1;", 2);
        at(carts + "!cart z at 1 sacks 1;", 2);
        at("law 1;!law 1;", 2);
    }

    private static void namesAndNumbers() {
        at("bird a counts 1 gap 1;bird !a counts 1 gap 1;", 3);
        at("post a at 1 toll 1;post !a at 1 toll 1;", 3);
        at("cart a at 1 sacks 1;cart !a at 1 sacks 1;", 3);
        good("bird a counts 1 gap 1;post a at 1 toll 1 a;cart a at 1 sacks 1;");
        at("bird a counts 1 gap 1;post p at 1 toll 1 a !a;", 3);
        at("bird a counts 1 gap 1;post p at 1 toll 1 a;post q at 1 toll 1 !a;", 3);
        at("post p at 1 toll 1 !a;bird a counts 1 gap 1;", 5);
        at("bird a counts 1 gap 1;post p at 1 toll 1 a !b;", 5);
        at("bird a counts 1 gap 1;post p at 1 toll 1 !aa;", 5);
        at("bird a counts !0 gap 1;", 4);
        at("bird a counts !21 gap 1;", 4);
        at("bird a counts 1 gap !0;", 4);
        at("bird a counts 1 gap !100;", 4);
        at("bird a counts 1 gap 1 takes !10;", 4);
        at("post p at !100 toll 1;", 4);
        at("post p at 1 toll !100;", 4);
        at("cart c at !601 sacks 1;", 4);
        at("cart c at 1 sacks !0;", 4);
        at("cart c at 1 sacks !100;", 4);
        good("bird a counts 1 gap 1 takes 0;bird b counts 20 gap 99 takes 9;post p at 0 toll 0;post q at 99 toll 99;"
            + "cart c at 0 sacks 1;cart d at 600 sacks 99;law 9999;");
    }

    private static void lawFaults() {
        at("law !;", 2);
        at("law 1 !2;", 2);
        at("law 1 < 2 !< 3;", 2);
        at("law 1 < !not 2;", 2);
        at("law 1 + !not 2;", 2);
        at("law !- 1;", 2);
        at("law (1!;", 2);
        at("law 1!);", 2);
        at("law (!);", 2);
        at("law !a;", 2);
        at("law 1 +!", 2);
        at("law 1 or !or 1;", 2);
        at("law !12345;", 1);
        at("law ((((((!x", 2);
        good("law (((((((1)))))));");
        at("law (((((((!(1))))))));", 2);
        good("law not not not not not not not 1;");
        at("law not not not not not not not !not 1;", 2);
        good("law not(not(not(not 1)));");
        at("law not(not(not(not !(1))));", 2);
        at("law (((((((!not 1)))))));", 2);
        good("law 1" + "+1".repeat(29) + ";");
        at("law 1" + "+1".repeat(29) + "+!1;", 2);
        good("law (1)" + "+(1)".repeat(14) + ";");
        at("law (1)" + "+(1)".repeat(14) + "+!1;", 2);
        at("law 1" + "+1".repeat(28) + "+(!1);", 2);
    }

    private static int pays(String law, int sacks, int toll) {
        CrowToll x = Due.on("bird a counts 9 gap 9;post p at 3 toll " + toll + " a;cart c at 1 sacks " + sacks + ";" + law);
        return x.pays(0, 0);
    }

    private static void law() {
        DUE.is("no law", pays("", 5, 42), 42);
        DUE.is("units without law", Due.on("").about(8), 0);
        Object[][] due = {
            {"sacks * 100 + toll * 10 + nth", 571}, {"2 + 3 * 4", 14}, {"(2 + 3) * 4", 20}, {"20 - 3 - 4", 13},
            {"20 / 3 / 2", 3}, {"17 % 5", 2}, {"7 / 0", 0}, {"7 % 0", 0}, {"7 / 0 + 3", 3}, {"9 + (0 - 7) / 2", 6},
            {"9 + (0 - 7) % 2", 8}, {"0 - 1", 0}, {"9999 + 1", 9999}, {"9999 * 9999", 9999},
            // 9999 three times is 999,700,029,999, which wraps to -1,027,349,969
            {"9999 * 9999 * 9999", 0}, {"0 - 9999 * 9999 * 9999", 9999}, {"9999 * 9999 * 9999 % 1000 + 1000", 31},
            {"3 < 4", 1}, {"4 < 3", 0}, {"3 > 4", 0}, {"4 > 3", 1}, {"4 = 4", 1}, {"4 = 3", 0}, {"1 + 1 = 2", 1},
            {"5 and 7", 1}, {"5 and 0", 0}, {"0 or 9", 1}, {"0 or 0", 0}, {"1 or 0 and 0", 1}, {"(1 or 0) and 0", 0},
            {"not 0", 1}, {"not 7", 0}, {"not not 7", 1}, {"not 3 < 4", 0}, {"not 1 or 1", 1}, {"not 1 and 0", 0},
            {"(3 < 4) * 50 + (not 0) * 6", 56}, {"(sacks > 4 and toll = 7) * 9 + nth", 10},
            {"9999 * 9999 * 21 + 9999 * 9999 * 21 < 0", 1},
        };
        for (Object[] row : due) {
            DUE.is("law " + row[0], pays("law " + row[0] + ";", 5, 7), (Integer) row[1]);
        }
        String seven = "not not not not not not not ";
        String longest = (seven + "0 and ").repeat(29) + seven;
        DUE.is("the longest law", pays("law " + longest + "0;", 5, 7), 1);
        DUE.is("its last unit counts", pays("law " + longest + "1;", 5, 7), 0);
        DUE.is("units", Due.on("law (1 + sacks) * toll < nth;").about(8), 5);
        CrowToll x = Due.on("bird a counts 3 gap 9;post p at 3 toll 2 a;cart c at 1 sacks 4;cart d at 2 sacks 4;cart e at 3 sacks 5;law sacks * nth;");
        DUE.is("nth of the first", x.pays(0, 0), 4);
        DUE.is("nth of the second", x.pays(1, 0), 8);
        DUE.is("nth of the third", x.pays(2, 0), 15);
    }

    public static void main(String[] args) {
        feed();
        end();
        road();
        tokens();
        ends();
        lines();
        tooMany();
        namesAndNumbers();
        lawFaults();
        law();
        DUE.finish();
    }
}
