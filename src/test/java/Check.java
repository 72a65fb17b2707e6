/** What the tests of the project share: comparing answers, and writing texts on the tape. */
final class Check {
    private static int wrong = 0;
    private static int asked = 0;

    private Check() {
    }

    static void same(String call, long got, long want) {
        asked++;
        if (got != want) {
            wrong++;
            System.out.println(call + " answered " + got + ", due is " + want);
        }
    }

    static void yes(String call, boolean got) {
        same(call, got ? 1 : 0, 1);
    }

    static void no(String call, boolean got) {
        same(call, got ? 1 : 0, 0);
    }

    static void throwsNoSuch(String call, TrustDesk desk, int fund, int what) {
        asked++;
        try {
            long got = desk.fundOf(fund, what);
            wrong++;
            System.out.println(call + " answered " + got + ", due is NoSuchElementException");
        } catch (java.util.NoSuchElementException due) {
            return;
        }
    }

    /** Puts a text on the tape, which is empty. */
    static void type(TrustDesk desk, String text) {
        int[] padded = new int[(text.length() + 19) / 20 * 20];
        for (int i = 0; i < text.length(); i++) {
            padded[i] = text.charAt(i);
        }
        for (int i = 0; i < padded.length; i += 20) {
            desk.feed(four(padded, i), four(padded, i + 4), four(padded, i + 8), four(padded, i + 12),
                    four(padded, i + 16));
        }
        desk.end(text.length());
    }

    private static int four(int[] bytes, int at) {
        return bytes[at] << 24 | bytes[at + 1] << 16 | bytes[at + 2] << 8 | bytes[at + 3];
    }

    static int act(TrustDesk desk, int from, String text) {
        type(desk, text);
        return desk.act(from);
    }

    static int fund(TrustDesk desk, int acres, int stock, String text) {
        type(desk, text);
        return desk.fund(acres, stock);
    }

    static int near(TrustDesk desk, int marks, String text) {
        type(desk, text);
        return desk.near(marks);
    }

    /** A fund's deed with a fault of a kind at a place. */
    static void faultyDeed(String text, int kind, int place) {
        TrustDesk desk = new TrustDesk();
        same("fund of '" + text + "'", fund(desk, 1, 1, text), -1 - kind);
        same("place in '" + text + "'", desk.place(), place);
        same("funds after '" + text + "'", desk.count(4), 0);
        same("tape after '" + text + "'", desk.count(8), 0);
    }

    static void faultyAct(String text, int kind, int place) {
        TrustDesk desk = new TrustDesk();
        same("act of '" + text + "'", act(desk, 0, text), -1 - kind);
        same("place in '" + text + "'", desk.place(), place);
        same("acts after '" + text + "'", desk.count(3), 0);
        same("tape after '" + text + "'", desk.count(8), 0);
    }

    static void faultyNear(String text, int kind, int place) {
        TrustDesk desk = new TrustDesk();
        same("near of '" + text + "'", near(desk, 0, text), -1 - kind);
        same("place in '" + text + "'", desk.place(), place);
        same("near ends after '" + text + "'", desk.count(5), 0);
    }

    static String repeat(String text, int times) {
        return text.repeat(times);
    }

    static void done() {
        System.out.println(asked + " answers compared, " + wrong + " wrong");
        if (wrong != 0) {
            System.exit(1);
        }
    }
}
