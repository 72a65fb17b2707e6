/** What the tests of the project share: comparing answers, writing texts on the tape, carrying schemes. */
final class Check {
    private static int wrong = 0;
    private static int asked = 0;
    private static String sentence = "";

    private Check() {
    }

    /** The words of the document that the next answers are compared for: told with a wrong one. */
    static void sentence(String words) {
        sentence = words;
    }

    static void same(String call, long got, long want) {
        asked++;
        if (got != want) {
            tellWrong(call + " answered " + got + ", due is " + want);
        }
    }

    static void yes(String call, boolean got) {
        same(call, got ? 1 : 0, 1);
    }

    static void no(String call, boolean got) {
        same(call, got ? 1 : 0, 0);
    }

    static void throwsNoSuch(String call, TrustDesk desk, int fund, int what) {
        asked++;
        try {
            long got = desk.fundOf(fund, what);
            tellWrong(call + " answered " + got + ", due is NoSuchElementException");
        } catch (java.util.NoSuchElementException due) {
            return;
        }
    }

    private static void tellWrong(String what) {
        wrong++;
        System.out.println((sentence.isEmpty() ? "" : "\"" + sentence + "\": ") + what);
    }

    /** Puts a text on the tape, which is empty. */
    static void type(TrustDesk desk, String text) {
        int[] padded = new int[(text.length() + 19) / 20 * 20];
        for (int i = 0; i < text.length(); i++) {
            padded[i] = text.charAt(i);
        }
        for (int i = 0; i < padded.length; i += 20) {
            desk.feed(four(padded, i), four(padded, i + 4), four(padded, i + 8), four(padded, i + 12),
                    four(padded, i + 16));
        }
        desk.end(text.length());
    }

    private static int four(int[] bytes, int at) {
        return bytes[at] << 24 | bytes[at + 1] << 16 | bytes[at + 2] << 8 | bytes[at + 3];
    }

    static int act(TrustDesk desk, int from, String text) {
        type(desk, text);
        return desk.act(from);
    }

    static int fund(TrustDesk desk, int acres, int stock, String text) {
        type(desk, text);
        return desk.fund(acres, stock);
    }

    static int near(TrustDesk desk, int marks, String text) {
        type(desk, text);
        return desk.near(marks);
    }

    /** A fund's deed with a fault of a kind at a place. */
    static void faultyDeed(String text, int kind, int place) {
        TrustDesk desk = new TrustDesk();
        same("fund of '" + text + "'", fund(desk, 1, 1, text), -1 - kind);
        same("place in '" + text + "'", desk.place(), place);
        same("funds after '" + text + "'", desk.count(4), 0);
        same("tape after '" + text + "'", desk.count(8), 0);
    }

    static void faultyAct(String text, int kind, int place) {
        TrustDesk desk = new TrustDesk();
        same("act of '" + text + "'", act(desk, 0, text), -1 - kind);
        same("place in '" + text + "'", desk.place(), place);
        same("acts after '" + text + "'", desk.count(3), 0);
        same("tape after '" + text + "'", desk.count(8), 0);
    }

    static void faultyNear(String text, int kind, int place) {
        TrustDesk desk = new TrustDesk();
        same("near of '" + text + "'", near(desk, 0, text), -1 - kind);
        same("place in '" + text + "'", desk.place(), place);
        same("near ends after '" + text + "'", desk.count(5), 0);
    }

    static void goodDeed(String text) {
        TrustDesk desk = new TrustDesk();
        same("fund of '" + text + "'", fund(desk, 1, 1, text), 0);
        same("no place in '" + text + "'", desk.place(), -1);
    }

    static void goodAct(String text, int rules) {
        TrustDesk desk = new TrustDesk();
        same("act of '" + text + "'", act(desk, 0, text), rules);
        same("no place in '" + text + "'", desk.place(), -1);
    }

    static void goodNear(String text) {
        TrustDesk desk = new TrustDesk();
        same("near of '" + text + "'", near(desk, 0, text), 0);
        same("no place in '" + text + "'", desk.place(), -1);
    }

    /** What the sum asks in year 0 of a new desk. */
    static void asks(String sum, int want) {
        TrustDesk desk = new TrustDesk();
        fund(desk, 0, 0, "end a pays " + sum + " if 1=1;");
        same(sum, desk.due(0, 0, 0, 0), want);
    }

    /** Whether a condition holds in year 0 of a new desk. */
    static void holds(String condition, boolean want) {
        TrustDesk desk = new TrustDesk();
        fund(desk, 0, 0, "end a pays 1 if " + condition + ";");
        same(condition, desk.due(0, 0, 0, 0), want ? 1 : -2);
    }

    /** A desk under an act, with funds of 10 acres and 100 of stock by these deeds, whose trustee is person 0. */
    static TrustDesk desk(String act, String... deeds) {
        TrustDesk desk = new TrustDesk();
        act(desk, 0, "days 1;" + act);
        for (int i = 0; i < deeds.length; i++) {
            fund(desk, 10, 100, deeds[i]);
            desk.trustee(i, 0);
        }
        return desk;
    }

    /** Proposes, lets person 0 say yes, lets two days go by, and settles. */
    static int carried(TrustDesk desk, int kind, int fund, int subject) {
        int scheme = desk.propose(kind, fund, subject);
        desk.vote(scheme, 0, true);
        desk.days(2);
        return desk.settle(scheme);
    }

    /** Lets so many spans of 720 days go by. */
    static void spans(TrustDesk desk, int times) {
        for (int i = 0; i < times; i++) {
            desk.days(720);
        }
    }

    static void done() {
        System.out.println(asked + " answers compared, " + wrong + " wrong");
        if (wrong != 0) {
            System.exit(1);
        }
    }
}
