/** What the tests by hand share: a count of wrong answers, and a way to lay a text on the tape. */
final class Due {
    private final String test;
    private int wrong = 0;

    Due(String test) {
        this.test = test;
    }

    void is(String call, long got, long want) {
        if (got != want) {
            wrong++;
            System.out.println(test + ": " + call + " answered " + got + ", due is " + want);
        }
    }

    void is(String call, boolean got, boolean want) {
        is(call, got ? 1 : 0, want ? 1 : 0);
    }

    /** All numbers that lie there. */
    void lie(String call, CrowToll x, int... numbers) {
        is(call + ", about(9)", x.about(9), numbers.length);
        for (int i = 0; i < numbers.length; i++) {
            is(call + ", lies(" + i + ")", x.lies(i), numbers[i]);
        }
        is(call + ", lies behind the last", x.lies(numbers.length), -1);
        is(call + ", lies(-1)", x.lies(-1), -1);
    }

    static void lay(CrowToll x, String text) {
        x.end(0);
        for (int i = 0; i < text.length(); i += 20) {
            int[] n = new int[5];
            for (int k = 0; k < 20; k++) {
                n[k / 4] = n[k / 4] << 8 | (i + k < text.length() ? text.charAt(i + k) : ' ');
            }
            x.feed(n[0], n[1], n[2], n[3], n[4]);
        }
        x.end(text.length());
    }

    static CrowToll on(String text) {
        CrowToll x = new CrowToll();
        lay(x, text);
        if (x.road() == CrowToll.NONE) {
            throw new IllegalStateException("fault " + x.fault(0) + " at " + x.fault(1) + ": " + text);
        }
        return x;
    }

    void finish() {
        System.out.println(wrong == 0 ? test + ": all answers are as due" : test + ": " + wrong + " answers are not as due");
        if (wrong != 0) {
            System.exit(1);
        }
    }
}
