/** What the tests by hand share: a count of wrong answers, and a way to lay a text on the tape. */
final class Due {
    private final String test;
    private int wrong = 0;
    private int asked = 0;

    Due(String test) {
        this.test = test;
    }

    int wrong() {
        return wrong;
    }

    int asked() {
        return asked;
    }

    void is(String call, long got, long want) {
        asked++;
        if (got != want) {
            wrong++;
            System.out.println(test + ": " + call + " answered " + got + ", due is " + want);
        }
    }

    void is(String call, boolean got, boolean want) {
        is(call, got ? 1 : 0, want ? 1 : 0);
    }

    /** All numbers that lie there. */
    void lie(String call, CrowToll x, int... numbers) {
        is(call + ", about(9)", x.about(9), numbers.length);
        for (int i = 0; i < numbers.length; i++) {
            is(call + ", lies(" + i + ")", x.lies(i), numbers[i]);
        }
        is(call + ", lies behind the last", x.lies(numbers.length), -1);
        is(call + ", lies(-1)", x.lies(-1), -1);
    }

    /** A text with a mark: it has a fault there, once the mark is taken out. */
    void fault(String marked, int which) {
        int place = marked.indexOf('!');
        road(marked.substring(0, place) + marked.substring(place + 1), which, place);
    }

    /** Texts without a fault. */
    void good(String... texts) {
        for (String text : texts) {
            road(text, 0, CrowToll.NONE);
        }
    }

    void road(String text, int which, int place) {
        CrowToll x = new CrowToll();
        lay(x, text);
        is("road() of \"" + text + "\"", x.road() == CrowToll.NONE, which != 0);
        is("fault(0) of \"" + text + "\"", x.fault(0), which);
        is("fault(1) of \"" + text + "\"", x.fault(1), place);
    }

    static void lay(CrowToll x, String text) {
        x.end(0);
        for (int i = 0; i < text.length(); i += 20) {
            int[] n = new int[5];
            for (int k = 0; k < 20; k++) {
                n[k / 4] = n[k / 4] << 8 | (i + k < text.length() ? text.charAt(i + k) : ' ');
            }
            x.feed(n[0], n[1], n[2], n[3], n[4]);
        }
        x.end(text.length());
    }

    static CrowToll on(String text) {
        CrowToll x = new CrowToll();
        lay(x, text);
        if (x.road() == CrowToll.NONE) {
            throw new IllegalStateException("fault " + x.fault(0) + " at " + x.fault(1) + ": " + text);
        }
        return x;
    }

    void finish() {
        System.out.println(wrong == 0 ? test + ": all answers are as due" : test + ": " + wrong + " answers are not as due");
        if (wrong != 0) {
            System.exit(1);
        }
    }
}
