/** What all tests share: it compares answers, tells the wrong ones, and ends with 1 if there was one. */
final class Check {
    private int asked;
    private int wrong;

    void due(String call, long got, long want) {
        asked++;
        if (got != want) {
            wrong++;
            System.out.println(call + " answered " + got + ", due is " + want);
        }
    }

    void holds(String what, boolean so) {
        due(what, so ? 1 : 0, 1);
    }

    void finish() {
        System.out.println(asked + " answers, " + wrong + " wrong");
        if (wrong != 0 || asked == 0) {
            System.exit(1);
        }
    }

    /** Feeds a text: whole calls of twenty bytes, and an end where the last one is not full. */
    static void feed(LuckyTicket x, String text) {
        int before = x.count(5);
        for (int from = 0; from < text.length(); from += 20) {
            int[] w = words(text, from);
            x.feed(w[0], w[1], w[2], w[3], w[4]);
        }
        x.end(before + text.length());
    }

    static int[] words(String text, int from) {
        int[] words = new int[5];
        for (int i = 0; i < 20; i++) {
            int b = from + i < text.length() ? text.charAt(from + i) & 255 : 0;
            words[i / 4] = words[i / 4] << 8 | b;
        }
        return words;
    }

    static LuckyTicket rolled(String text) {
        LuckyTicket x = new LuckyTicket();
        feed(x, text);
        int lines = x.roll();
        if (lines < 1) {
            System.out.println("a text that should be a roll is not: " + text + ": " + lines
                    + ", fault " + x.fault(0) + " at " + x.fault(1));
            System.exit(1);
        }
        return x;
    }
}
