/** Promises 28 to 35: the nearest, marks, groups, judging, accounts and counts. */
public final class GroupsTest {
    public static void main(String[] args) {
        nearest();
        marks();
        grouping();
        fewestGroupsFirst();
        keepMarksInGroups();
        needs();
        groupsOfNone();
        eightFunds();
        laying();
        accounts();
        accountLimit();
        counts();
        Check.done();
    }

    private static final String NEAR = "end n pays 1 if 1=1;";

    // promise 28
    private static void nearest() {
        TrustDesk x = new TrustDesk();
        Check.fund(x, 0, 0, "mark 0 1 2;");
        Check.fund(x, 0, 0, "mark 0 1 2;");
        Check.same("none there", x.nearest(0), -1);
        Check.near(x, 8, NEAR);
        Check.same("none of its marks", x.nearest(0), -1);
        Check.near(x, 1 + 8, NEAR);
        Check.near(x, 2 + 16 + 32 + 64, NEAR);
        Check.same("of like ones the least", x.nearest(0), 1);
        Check.near(x, 2 + 4, NEAR);
        Check.near(x, 1 + 4, NEAR);
        Check.same("the most", x.nearest(0), 3);
        Check.act(x, 1, "keep 3;");
        Check.same("not yet in force", x.nearest(0), 3);
        Check.same("a fund without marks", Check.fund(x, 0, 0, ""), 2);
        Check.same("not at keep 1", x.nearest(2), -1);
        x.days(1);
        Check.same("fewer than keep", x.nearest(0), -1);
        Check.act(x, 1, "keep 2;days 1;");
        Check.same("just keep", x.nearest(0), 3);
        Check.same("no such fund", x.nearest(3), -1);
        Check.same("below", x.nearest(-1), -1);
        x.trustee(0, 0);
        x.trustee(1, 0);
        x.propose(1, 0, 1);
        x.vote(0, 0, true);
        x.days(2);
        Check.same("joined", x.settle(0), 0);
        Check.same("of a joined one", x.nearest(0), -1);
        Check.same("of the other one", x.nearest(1), 3);
        Check.act(x, 0, "keep 0;");
        Check.act(x, 3, "keep 0;");
        Check.same("keep 0", x.nearest(2), 0);
    }

    // promise 29
    private static void marks() {
        TrustDesk x = new TrustDesk();
        Check.fund(x, 0, 0, "mark 0 1 2 7;");
        Check.near(x, 128 + 2 + 8, NEAR);
        Check.near(x, 255, NEAR);
        Check.near(x, 0, NEAR);
        Check.same("kept", x.marks(0, 0, 0), 2);
        Check.same("lost", x.marks(0, 0, 1), 2);
        Check.same("all kept", x.marks(0, 1, 0), 4);
        Check.same("none lost", x.marks(0, 1, 1), 0);
        Check.same("none kept", x.marks(0, 2, 0), 0);
        Check.same("all lost", x.marks(0, 2, 1), 4);
        Check.same("what above", x.marks(0, 0, 2), -1);
        Check.same("what below", x.marks(0, 0, -1), -1);
        Check.same("no such near end", x.marks(0, 3, 0), -1);
        Check.same("near end below", x.marks(0, -1, 0), -1);
        Check.same("no such fund", x.marks(1, 0, 0), -1);
        Check.same("fund below", x.marks(-1, 0, 0), -1);
    }

    /** A fund with a stock of its own that asks so much, with the same marks as the others. */
    private static void rich(TrustDesk desk, int stock, int asks, String marks) {
        Check.fund(desk, 0, stock, "mark " + marks + ";end a pays " + asks + " if 1=1;");
    }

    // promises 30 and 31
    private static void grouping() {
        TrustDesk x = new TrustDesk();
        rich(x, 100, 0, "1");
        rich(x, 0, 60, "1");
        rich(x, 0, 40, "1");
        rich(x, 50, 0, "1");
        Check.same("alone", x.group(1), 100);
        Check.same("its group", x.grouped(1, 0), 0);
        Check.same("alone in need", x.group(2), 0);
        Check.same("all", x.group(15), 50);
        for (int fund = 0; fund < 4; fund++) {
            Check.same("one group", x.grouped(15, fund), 0);
        }
        Check.same("two rich ones", x.group(9), 150);
        Check.same("fewest", x.grouped(9, 3), 0);
        Check.same("not among them", x.grouped(9, 1), -1);
        Check.same("no such fund", x.grouped(9, 4), -1);
        Check.same("fund below", x.grouped(9, -1), -1);
        Check.same("fund far above", x.grouped(9, 35), -1);
        Check.same("of no funds", x.grouped(0, 0), -1);
        Check.same("of funds that there aren't", x.grouped(17, 0), -1);
        TrustDesk y = new TrustDesk();
        rich(y, 100, 0, "1");
        rich(y, 70, 0, "2");
        rich(y, 0, 100, "1 2");
        rich(y, 0, 70, "1 2");
        Check.same("each need with its coin", y.group(15), 0);
        Check.same("fund 0", y.grouped(15, 0), 0);
        Check.same("fund 1", y.grouped(15, 1), 1);
        Check.same("fund 2", y.grouped(15, 2), 0);
        Check.same("fund 3", y.grouped(15, 3), 1);
        Check.same("in need alone", y.group(6), 0);
        Check.same("among fund 1 and 2", y.grouped(6, 2), 0);
    }

    private static void fewestGroupsFirst() {
        TrustDesk x = new TrustDesk();
        rich(x, 10, 0, "1");
        rich(x, 10, 0, "2");
        rich(x, 10, 0, "1 2");
        rich(x, 10, 0, "1 2");
        Check.same("idle all the same", x.group(15), 40);
        int[] first = {0, 1, 0, 0};
        for (int fund = 0; fund < 4; fund++) {
            Check.same("the first of two groups", x.grouped(15, fund), first[fund]);
        }
        TrustDesk y = new TrustDesk();
        rich(y, 10, 0, "1");
        rich(y, 10, 0, "2");
        rich(y, 0, 4, "1 2");
        rich(y, 0, 4, "1 2");
        Check.same("needs apart or together", y.group(15), 12);
        Check.same("both go to the first", y.grouped(15, 2), 0);
        Check.same("both go to the first one", y.grouped(15, 3), 0);
    }

    private static void keepMarksInGroups() {
        TrustDesk x = new TrustDesk();
        rich(x, 100, 0, "1 2 3");
        rich(x, 0, 100, "2 3 4");
        rich(x, 0, 0, "3 4 5");
        Check.same("one mark", x.group(7), 0);
        Check.same("all together", x.grouped(7, 2), 0);
        Check.act(x, 0, "keep 2;");
        Check.same("two marks", x.group(7), 0);
        Check.same("but the third one alone", x.grouped(7, 2), 1);
        Check.act(x, 0, "keep 3;");
        Check.same("three marks", x.group(7), 100);
        Check.same("each alone", x.grouped(7, 2), 2);
        Check.act(x, 0, "keep 8;");
        Check.same("alone without keep marks", x.group(1), 100);
        Check.act(x, 0, "keep 0;");
        Check.same("keep 0", x.grouped(7, 2), 0);
    }

    private static void needs() {
        TrustDesk x = new TrustDesk();
        Check.act(x, 0, "fail 1;");
        Check.fund(x, 2, 100, "mark 1;end a pays 10 if poor=1;end b pays 20 if poor=0;end c pays 0-5 if 1=1;"
                + "end d pays coin if coin<100;");
        x.fact(6, 0, 7);
        Check.same("those that are due", x.group(1), 114 - 20);
        x.fact(0, 0, 1);
        Check.same("as known now", x.group(1), 114 - 10);
        x.fact(0, 1, 0);
        x.fact(6, 1, 1);
        x.days(360);
        Check.same("coin", x.coin(0), 114 - 10);
        Check.same("dead ones are no need", x.group(1), 102);
        x.fact(0, 1, 1);
        Check.same("of the year at hand", x.group(1), 102 - 10);
        TrustDesk y = new TrustDesk();
        Check.fund(y, 0, 70, "mark 1;end a pays income-coin-60 if coin=0 and income=70;");
        Check.fund(y, 0, 50, "mark 1;end a pays income if income=50;");
        Check.same("by income and coin of each", y.group(3), 120 - 10 - 50);
    }

    private static void groupsOfNone() {
        TrustDesk x = new TrustDesk();
        Check.same("no funds", x.group(1), -1);
        Check.same("none judged", x.judge(1), -1);
        for (int i = 0; i < 12; i++) {
            rich(x, 10, 0, "1");
        }
        Check.same("none", x.group(0), -1);
        Check.same("nine", x.group(511), -1);
        Check.same("nine judged", x.judge(511), -1);
        Check.same("nine grouped", x.grouped(511, 0), -1);
        Check.same("eight", x.group(255), 80);
        Check.same("the last eight", x.group(0xff0), 80);
        Check.same("no fund 12", x.group(1 << 12), -1);
        Check.same("no fund 31", x.group(1 << 31 | 1), -1);
        Check.same("none judged of fund 31", x.judge(1 << 31), -1);
        Check.act(x, 0, "days 1;");
        x.trustee(0, 0);
        x.trustee(1, 0);
        x.propose(1, 0, 1);
        x.vote(0, 0, true);
        x.days(2);
        Check.same("joined", x.settle(0), 0);
        Check.same("a joined one", x.group(5), -1);
        Check.same("judged", x.judge(5), -1);
        Check.same("grouped", x.grouped(5, 2), -1);
        Check.same("without it", x.group(6), 30);
    }

    private static void eightFunds() {
        TrustDesk x = new TrustDesk();
        for (int i = 0; i < 4; i++) {
            rich(x, 10 + i, 0, "" + i);
        }
        for (int i = 3; i >= 0; i--) {
            rich(x, 0, 10 + i, "" + i + " 7");
        }
        Check.same("pairs", x.group(255), 0);
        int[] want = {0, 1, 2, 3, 3, 2, 1, 0};
        for (int fund = 0; fund < 8; fund++) {
            Check.same("pair of " + fund, x.grouped(255, fund), want[fund]);
        }
        TrustDesk y = new TrustDesk();
        Check.act(y, 0, "keep 8;");
        for (int i = 0; i < 9; i++) {
            rich(y, i, 0, "1");
        }
        Check.same("each alone", y.group(0x1fe), 36);
        for (int fund = 1; fund < 9; fund++) {
            Check.same("alone " + fund, y.grouped(0x1fe, fund), fund - 1);
        }
    }

    // promises 32 and 33
    private static void laying() {
        TrustDesk x = new TrustDesk();
        rich(x, 100, 0, "1");
        rich(x, 0, 60, "1");
        rich(x, 30, 0, "2");
        Check.no("no such fund", x.lay(3, 0));
        Check.no("fund below", x.lay(-1, 0));
        Check.no("group above", x.lay(0, 8));
        Check.no("group below", x.lay(0, -1));
        Check.same("0 at first", x.judge(3), 40);
        Check.same("marks forbid", x.judge(7), -2);
        Check.yes("the greatest", x.lay(2, 7));
        Check.same("two groups", x.judge(7), 70);
        Check.yes("another", x.lay(1, 3));
        Check.same("three groups", x.judge(7), 130);
        Check.yes("with the wrong one", x.lay(1, 7));
        Check.same("marks forbid too", x.judge(7), -2);
        Check.same("alone it can be", x.judge(2), 0);
        Check.same("others of its group don't count", x.judge(3), 100);
        Check.act(x, 0, "keep 0;");
        Check.same("keep 0", x.judge(7), 100);
        Check.act(x, 0, "keep 2;");
        x.lay(1, 0);
        Check.same("keep 2", x.judge(3), -2);
        Check.same("one alone keeps none", x.judge(1), 100);
    }

    // promise 34
    private static void accounts() {
        TrustDesk x = new TrustDesk();
        Check.fund(x, 0, 0, "");
        x.days(359);
        Check.same("not closed", x.account(0, 0), -1);
        x.days(1);
        Check.same("in time", x.account(0, 0), 0);
        Check.same("given", x.account(0, 0), -1);
        Check.same("of another year", x.account(0, 1), -1);
        Check.same("year below", x.account(0, -1), -1);
        Check.same("year far above", x.account(0, Integer.MAX_VALUE), -1);
        Check.same("no such fund", x.account(1, 0), -1);
        Check.same("fund below", x.account(-1, 0), -1);
        Check.same("a new fund", Check.fund(x, 0, 0, ""), 1);
        x.days(89);
        Check.same("on the last day", x.account(1, 0), 0);
        x.days(271 + 90);
        Check.act(x, 719, "late 1;");
        Check.act(x, 720, "late 50;");
        Check.same("by the act of the year's last day", x.account(0, 1), 810 - 719 - 1);
        Check.act(x, 0, "late 80;");
        Check.fund(x, 0, 0, "");
        Check.same("as it is now known", x.account(2, 0), 810 - 359 - 80);
        Check.same("four", x.count(9), 4);
    }

    private static void accountLimit() {
        TrustDesk x = new TrustDesk();
        for (int i = 0; i < 3; i++) {
            Check.fund(x, 0, 0, "");
        }
        for (int i = 0; i < 50; i++) {
            x.days(720);
        }
        for (int i = 0; i < 200; i++) {
            Check.yes("given " + i, x.account(i % 2, i / 2) >= 0);
        }
        Check.same("a 201st", x.account(2, 0), -1);
        Check.same("two hundred", x.count(9), 200);
        TrustDesk y = new TrustDesk();
        Check.fund(y, 0, 0, "");
        for (int i = 0; i < 50; i++) {
            y.days(720);
        }
        Check.same("year 99", y.account(0, 99), 0);
        Check.same("year 100", y.account(0, 100), -1);
    }

    // promise 35
    private static void counts() {
        TrustDesk x = new TrustDesk();
        x.fact(0, 0, 1);
        x.fact(0, 0, 2);
        Check.act(x, 0, "days 1;");
        for (int i = 0; i < 5; i++) {
            Check.fund(x, 0, 5, "mark 1;end a pays 1 if 1=1;");
            x.trustee(i, 0);
        }
        for (int i = 0; i < 4; i++) {
            Check.near(x, 1, NEAR);
        }
        x.propose(1, 0, 1);
        x.vote(0, 0, true);
        x.propose(1, 3, 4);
        x.vote(1, 0, true);
        x.propose(3, 2, 0);
        x.days(720);
        x.days(2);
        Check.same("made", x.settle(0), 0);
        Check.same("made too", x.settle(1), 0);
        Check.same("failed", x.settle(2), 4);
        x.account(2, 0);
        Check.type(x, "0123456");
        int[] want = {722, 2, 2, 1, 5, 4, 3, 10, 7, 1, 2, 3};
        for (int what = 0; what < 12; what++) {
            Check.same("count " + what, x.count(what), want[what]);
        }
        Check.same("what above", x.count(12), -1);
        Check.same("what below", x.count(-1), -1);
        Check.same("one fund alone", Check.fund(new TrustDesk(), 0, 0, ""), 0);
        TrustDesk y = new TrustDesk();
        y.fund(0, 0);
        Check.same("not joined", y.count(11), 1);
    }
}
