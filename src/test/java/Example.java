/** The example of README.md, word by word, so that it is compiled and run. */
final class Example {
    private Example() { }

    static int[] run() {
        CrowToll x = new CrowToll();
        String text = "bird a counts 2 gap 5;post p at 10 toll 3 a;cart c at 0 sacks 4;cart d at 2 sacks 1 maybe;law sacks * nth + toll;";
        for (int i = 0; i < text.length(); i += 20) {
            int[] n = new int[5];
            for (int k = 0; k < 20; k++) {
                n[k / 4] = n[k / 4] << 8 | (i + k < text.length() ? text.charAt(i + k) : ' ');
            }
            x.feed(n[0], n[1], n[2], n[3], n[4]);
        }
        x.end(text.length());
        int carts = x.road();                   // 2: so many carts; NONE (-1) if the text has a fault
        int pays = x.pays(0, 0);                // 7: cart 0 at post 0, 4 sacks * the 1st + toll 3
        int comes = x.doubt(1);                 // 1: the maybe cart comes now; an act, which undo() takes back
        int income = x.income(CrowToll.NONE);   // 12: of all posts, 7 + 1 * 2 + 3
        int least = x.party(2, 5, 0, 20, 1);    // 0: two carts more go free if they set out with cart 0
        int later = x.lies(1);                  // 0: how many minutes later the second of them sets out
        int seen = x.sight(11, 0, 1);           // 0: a sight's number; behind minute 11 bird 0 had counted one
        int sets = x.came(0, 0);                // 2: so many sets of maybe carts could have come
        return new int[] {carts, pays, comes, income, least, later, seen, sets};
    }
}
