/** The boundary cases of the document's section 4: the nearest, needs, groups, judging, why, accounts. */
public final class EdgesOfGroupsTest {
    private static final String NEAR = "end n pays 1 if 1=1;";

    public static void main(String[] args) {
        nearestHasTheMostMarks();
        nearestOfLikeOnes();
        nearestHasAtLeastKeep();
        nearestByTheActAtHand();

        needOfLivingDueEnds();
        needAsKnownNow();
        idleNoughtAtLeast();
        oneToEightFunds();
        noneJoined();
        eachInOneGroup();
        groupsOfMoreThanOneKeepMarks();
        aGroupOfOneNeedsNoMarks();
        leastIdle();
        ofSeveralTheFewestGroups();
        ofTheseTheFirst();
        groupsNumberedByTheirFirstFund();
        greatSums();

        judgedByWhatWasTold();
        judgedCantBe();
        rowsOfNoughtToSeven();

        whyTheFirstThatDoesNotHold();
        whyWhateverTheCondMakesOfIt();
        whyNumbersOnAndOn();

        accountOfAClosedYear();
        accountOnce();
        twoHundredAccounts();
        accountInTime();
        accountByTheActOfTheLastDay();
        Check.done();
    }

    /** Adds a fund with a stock, that asks so much, with these marks ("" for none). */
    private static void add(TrustDesk desk, int stock, int asks, String marks) {
        String deed = marks.isEmpty() ? "" : "mark " + marks + ";";
        Check.fund(desk, 0, stock, deed + "end a pays " + asks + " if 1=1;");
    }

    private static void groupsAre(TrustDesk desk, int funds, int... want) {
        int at = 0;
        for (int fund = 0; fund < 12; fund++) {
            if ((funds >> fund & 1) != 0) {
                Check.same("group of fund " + fund, desk.grouped(funds, fund), want[at]);
                at++;
            } else {
                Check.same("no group of fund " + fund, desk.grouped(funds, fund), -1);
            }
        }
    }

    // ---- the nearest

    private static void nearestHasTheMostMarks() {
        Check.sentence("THE NEAREST for a FUND: of all NEAR ENDS the one with the most MARKS that the FUND has");
        TrustDesk x = new TrustDesk();
        Check.fund(x, 0, 0, "mark 0 1 2 3;");
        Check.near(x, 1, NEAR);
        Check.near(x, 1 + 2 + 4, NEAR);
        Check.near(x, 2 + 16 + 32 + 64 + 128, NEAR);
        Check.same("three of four", x.nearest(0), 1);
        Check.near(x, 255, NEAR);
        Check.same("all four", x.nearest(0), 3);
        Check.fund(x, 0, 0, "mark 4 5 6 7;");
        Check.same("for another fund", x.nearest(1), 2);
    }

    private static void nearestOfLikeOnes() {
        Check.sentence("of like ones the least");
        TrustDesk x = new TrustDesk();
        Check.fund(x, 0, 0, "mark 0 1 2 3;");
        Check.near(x, 1, NEAR);
        Check.near(x, 1 + 2, NEAR);
        Check.near(x, 4 + 8, NEAR);
        Check.near(x, 1 + 2, NEAR);
        Check.near(x, 8, NEAR);
        Check.same("the least with two", x.nearest(0), 1);
    }

    private static void nearestHasAtLeastKeep() {
        Check.sentence("at least keep of them");
        for (int keep = 0; keep <= 3; keep++) {
            TrustDesk x = new TrustDesk();
            Check.act(x, 0, "keep " + keep + ";");
            Check.fund(x, 0, 0, "mark 0 1;");
            Check.fund(x, 0, 0, "");
            Check.same("no near end, keep " + keep, x.nearest(0), -1);
            Check.near(x, 4, NEAR);
            Check.near(x, 1 + 2 + 4, NEAR);
            Check.same("two, keep " + keep, x.nearest(0), keep <= 2 ? 1 : -1);
            Check.same("none, keep " + keep, x.nearest(1), keep == 0 ? 0 : -1);
        }
        TrustDesk y = new TrustDesk();
        Check.act(y, 0, "keep 8;");
        Check.fund(y, 0, 0, "mark 0 1 2 3 4 5 6 7;");
        Check.near(y, 254, NEAR);
        Check.same("seven, keep 8", y.nearest(0), -1);
        Check.near(y, 255, NEAR);
        Check.same("eight, keep 8", y.nearest(0), 1);
    }

    private static void nearestByTheActAtHand() {
        Check.sentence("at least keep of them (of the ACT in force on the DAY at hand)");
        TrustDesk x = new TrustDesk();
        Check.fund(x, 0, 0, "mark 0 1;");
        Check.near(x, 3, NEAR);
        Check.act(x, 1, "keep 3;");
        Check.act(x, 2, "keep 2;");
        Check.same("day 0", x.nearest(0), 0);
        x.days(1);
        Check.same("day 1", x.nearest(0), -1);
        x.days(1);
        Check.same("day 2", x.nearest(0), 0);
    }

    // ---- needs and idle

    private static void needOfLivingDueEnds() {
        Check.sentence("NEED of a FUND in the YEAR at hand: what all LIVING ENDS that are DUE ask");
        TrustDesk x = Check.desk("fail 1;", "mark 1;end a pays 1 if 1=1;end b pays 2 if poor=1;"
                + "end c pays 4 if poor=0;end d pays 8 if 1=1;end e pays 16 if poor=1;end f pays 0-64 if 1=1;");
        Check.same("those that are due", x.group(1), 100 - 1 - 4 - 8);
        Check.same("struck", Check.carried(x, 3, 0, 3), 0);
        Check.same("without the struck one", x.group(1), 100 - 1 - 4);
        x.days(358);
        x.fact(0, 1, 1);
        Check.same("without the dead ones", x.group(1), 100 - 1);
        Check.same("b is dead", x.endOf(0, 1, 0), 1);
        Check.same("but due", x.due(0, 1, 1, 360), 2);
    }

    private static void needAsKnownNow() {
        Check.sentence("in the YEAR at hand, as known now");
        TrustDesk x = new TrustDesk();
        Check.act(x, 0, "fail 50;");
        Check.fund(x, 2, 0, "end a pays poor if 1=1;end b pays coin if coin>0;");
        x.fact(6, 0, 50);
        x.fact(0, 0, 10);
        Check.same("year 0", x.group(1), 90);
        x.fact(0, 0, 20);
        Check.same("as known now", x.group(1), 80);
        x.fact(6, 1, 30);
        x.fact(0, 1, 5);
        Check.same("still year 0", x.group(1), 80);
        x.days(359);
        Check.same("on its last day", x.group(1), 80);
        x.fact(0, 0, 100);
        x.days(1);
        Check.same("year 1", x.group(1), 55);
        x.fact(0, 0, 9999);
        Check.same("nothing of year 0", x.group(1), 55);
        TrustDesk y = new TrustDesk();
        Check.fund(y, 0, 30, "end a pays coin+1 if coin<100;end b pays 2 if 1=1;");
        Check.same("without coin", y.group(1), 27);
        y.days(360);
        Check.same("coin now", y.coin(0), 28);
        Check.same("by the coin of now it asks 29 and 2", y.group(1), 0);
        TrustDesk z = new TrustDesk();
        Check.fund(z, 0, 50, "end a pays coin if poor=0;end b pays coin+1 if coin=20;");
        z.fact(0, 0, 1);
        z.days(360);
        z.fact(0, 1, 0);
        Check.same("coin of year 0", z.coin(0), 50);
        Check.same("coin is not taken off as it is asked", z.group(1), 0);
        TrustDesk w = new TrustDesk();
        Check.fund(w, 0, 70, "end a pays income-60 if income=70;end b pays coin if coin=60;");
        Check.fund(w, 0, 50, "end a pays income-45 if income=50;end b pays coin if coin=45;");
        Check.same("by income of each", w.group(1) + w.group(2), 60 + 45);
        w.days(360);
        Check.same("coin of one", w.coin(0), 0);
        TrustDesk v = new TrustDesk();
        Check.fund(v, 0, 70, "end a pays coin*2-90 if coin=50 or coin=70;");
        Check.fund(v, 0, 50, "end a pays coin*2-89 if coin=49;end b pays 1 if 1=1;");
        v.days(360);
        Check.same("coin of the first", v.coin(0), 20);
        Check.same("coin of the second", v.coin(1), 49);
        Check.same("by coin of each", v.group(1) + 1000 * v.group(2), 70 + 1000 * 40);
    }

    private static void idleNoughtAtLeast() {
        Check.sentence("IDLE of a GROUP of FUNDS: all INCOME less all NEED, 0 at least");
        TrustDesk x = new TrustDesk();
        add(x, 10, 9, "1");
        add(x, 10, 10, "2");
        add(x, 10, 11, "3");
        add(x, 10, 9999, "4");
        Check.same("one is idle", x.group(1), 1);
        Check.same("none is idle", x.group(2), 0);
        Check.same("one in need", x.group(4), 0);
        Check.same("far in need", x.group(8), 0);
        Check.same("apart by their marks, what one lacks is not taken off", x.group(15), 1);
        Check.same("judged", x.judge(8), 0);
    }

    private static void greatSums() {
        Check.sentence("all INCOME less all NEED");
        TrustDesk x = new TrustDesk();
        for (int i = 0; i < 8; i++) {
            Check.fund(x, 999, 99999, "mark 1;end a pays 9999*9999*9999 if poor=1;end b pays 9999*9999*9999 if poor=1;"
                    + "end c pays 9999*9999*9999 if poor=1;");
        }
        x.fact(6, 0, 9999);
        Check.same("much income", x.group(255), 8L * (999 * 9999 + 99999));
        x.fact(0, 0, 1);
        Check.same("a need of three thousand million each", x.group(255), 0);
        groupsAre(x, 255, 0, 0, 0, 0, 0, 0, 0, 0);
    }

    // ---- groups

    private static void oneToEightFunds() {
        Check.sentence("TO GROUP some FUNDS (1 to 8 ...)");
        TrustDesk x = new TrustDesk();
        for (int i = 0; i < 12; i++) {
            add(x, 1, 0, "1");
        }
        Check.same("none", x.group(0), -1);
        Check.same("none judged", x.judge(0), -1);
        Check.same("none grouped", x.grouped(0, 0), -1);
        for (int count = 1; count <= 12; count++) {
            int funds = (1 << count) - 1;
            Check.same("group " + count, x.group(funds), count <= 8 ? count : -1);
            Check.same("judge " + count, x.judge(funds), count <= 8 ? count : -1);
            Check.same("grouped " + count, x.grouped(funds, 0), count <= 8 ? 0 : -1);
        }
        Check.same("the last alone", x.group(1 << 11), 1);
        Check.same("first and last", x.group(1 << 11 | 1), 2);
        Check.same("a 13th fund", x.group(1 << 12), -1);
        Check.same("with it", x.group(1 << 12 | 1), -1);
        Check.same("all bits", x.group(-1), -1);
        Check.same("the highest bit", x.group(Integer.MIN_VALUE), -1);
        Check.same("with the highest bit", x.judge(Integer.MIN_VALUE | 1), -1);
        Check.same("grouped with the highest bit", x.grouped(Integer.MIN_VALUE | 1, 0), -1);
    }

    private static void noneJoined() {
        Check.sentence("TO GROUP some FUNDS (... none JOINED)");
        TrustDesk x = Check.desk("", "mark 1;", "mark 1;", "mark 1;");
        Check.same("three", x.group(7), 300);
        Check.same("joined", Check.carried(x, 1, 1, 2), 0);
        Check.same("with the joined one", x.group(7), -1);
        Check.same("that one alone", x.group(2), -1);
        Check.same("judged with it", x.judge(3), -1);
        Check.same("grouped with it", x.grouped(3, 0), -1);
        Check.same("without it", x.group(5), 300);
        Check.same("judged without it", x.judge(5), 300);
        Check.same("grouped without it", x.grouped(5, 2), 0);
        TrustDesk y = Check.desk("", "mark 1;", "mark 1;", "mark 1;");
        Check.same("the first is joined", Check.carried(y, 1, 0, 1), 0);
        Check.same("with the first", y.group(3), -1);
        Check.same("judged with the first", y.judge(1), -1);
        TrustDesk z = Check.desk("", "mark 1;", "mark 1;", "mark 1;");
        Check.same("the last is joined", Check.carried(z, 1, 2, 0), 0);
        Check.same("with the last", z.group(6), -1);
        Check.same("judged with the last", z.judge(4), -1);
    }

    private static void eachInOneGroup() {
        Check.sentence("each in one GROUP");
        TrustDesk x = new TrustDesk();
        add(x, 10, 0, "1 2");
        add(x, 0, 10, "1");
        add(x, 0, 10, "2");
        Check.same("its ten for one of both", x.group(7), 0);
        groupsAre(x, 7, 0, 0, 1);
    }

    private static void groupsOfMoreThanOneKeepMarks() {
        Check.sentence("a GROUP of more than one has at least keep MARKS that all have");
        for (int keep = 0; keep <= 4; keep++) {
            TrustDesk x = new TrustDesk();
            Check.act(x, 0, "keep " + keep + ";");
            add(x, 10, 0, "0 1 2 3 4");
            add(x, 0, 10, "2 3 4 5 6");
            Check.same("three in common, keep " + keep, x.group(3), keep <= 3 ? 0 : 10);
            Check.same("judged, keep " + keep, x.judge(3), keep <= 3 ? 0 : -2);
        }
        TrustDesk y = new TrustDesk();
        add(y, 10, 0, "0 1");
        add(y, 0, 4, "1 2");
        add(y, 0, 6, "0 2");
        Check.same("two and two have one, all three none", y.group(7), 4);
        groupsAre(y, 7, 0, 1, 0);
        Check.same("all judged", y.judge(7), -2);
    }

    private static void aGroupOfOneNeedsNoMarks() {
        Check.sentence("a GROUP of more than one has at least keep MARKS: one alone needs none");
        TrustDesk x = new TrustDesk();
        Check.act(x, 0, "keep 8;");
        add(x, 10, 0, "");
        add(x, 20, 0, "");
        Check.same("one", x.group(1), 10);
        Check.same("judged", x.judge(1), 10);
        Check.same("two apart", x.group(3), 30);
        groupsAre(x, 3, 0, 1);
        Check.same("judged together", x.judge(3), -2);
        x.lay(1, 1);
        Check.same("judged apart", x.judge(3), 30);
        Check.act(x, 0, "keep 0;");
        Check.same("keep 0", x.group(3), 30);
        groupsAre(x, 3, 0, 0);
        TrustDesk y = new TrustDesk();
        add(y, 10, 0, "1 2");
        add(y, 0, 4, "1");
        add(y, 0, 10, "2");
        add(y, 5, 0, "");
        Check.same("one without marks beside others", y.group(15), 5);
        groupsAre(y, 15, 0, 1, 0, 2);
    }

    private static void leastIdle() {
        Check.sentence("The best: the least IDLE of all GROUPS together");
        TrustDesk x = new TrustDesk();
        add(x, 10, 0, "1");
        add(x, 8, 0, "2");
        add(x, 0, 10, "1 2");
        add(x, 0, 8, "2");
        Check.same("two groups without any", x.group(15), 0);
        groupsAre(x, 15, 0, 1, 0, 1);
        TrustDesk y = new TrustDesk();
        add(y, 10, 0, "1 2");
        add(y, 10, 0, "1");
        add(y, 0, 10, "1 2");
        Check.same("ten anyhow", y.group(7), 10);
        groupsAre(y, 7, 0, 0, 0);
    }

    private static void ofSeveralTheFewestGroups() {
        Check.sentence("of several the fewest GROUPS");
        TrustDesk x = new TrustDesk();
        for (int i = 0; i < 8; i++) {
            add(x, 5, 0, "1");
        }
        Check.same("idle however they are grouped", x.group(255), 40);
        groupsAre(x, 255, 0, 0, 0, 0, 0, 0, 0, 0);
        TrustDesk y = new TrustDesk();
        add(y, 5, 0, "1");
        add(y, 5, 0, "2");
        add(y, 5, 0, "1 3");
        add(y, 5, 0, "2 3");
        add(y, 5, 0, "3");
        Check.same("idle alike", y.group(31), 25);
        // three at least, as 1, 2 and the last have no mark together: 0 and 2, 1 and 3, 4 is the first such row
        groupsAre(y, 31, 0, 1, 0, 1, 2);
        TrustDesk z = new TrustDesk();
        add(z, 5, 0, "1 2");
        add(z, 5, 0, "1 3");
        add(z, 5, 0, "2");
        add(z, 5, 0, "3");
        Check.same("idle alike too", z.group(15), 20);
        // 0, 0, 1, 2 would be the first row, but has a group more
        groupsAre(z, 15, 0, 1, 0, 1);
    }

    private static void ofTheseTheFirst() {
        Check.sentence("of these the first: FUND by FUND by numbers, compared GROUP by GROUP");
        TrustDesk x = new TrustDesk();
        add(x, 5, 0, "1");
        add(x, 5, 0, "2");
        for (int i = 0; i < 3; i++) {
            add(x, 5, 0, "1 2");
        }
        Check.same("idle alike", x.group(31), 25);
        groupsAre(x, 31, 0, 1, 0, 0, 0);
        TrustDesk y = new TrustDesk();
        add(y, 5, 0, "1");
        add(y, 5, 0, "1 2");
        add(y, 5, 0, "2");
        Check.same("idle alike in two ways", y.group(7), 15);
        groupsAre(y, 7, 0, 0, 1);
        TrustDesk z = new TrustDesk();
        add(z, 10, 0, "1");
        add(z, 10, 0, "2");
        add(z, 0, 5, "1 2");
        Check.same("five less in either way", z.group(7), 15);
        groupsAre(z, 7, 0, 1, 0);
    }

    private static void groupsNumberedByTheirFirstFund() {
        Check.sentence("GROUPS are numbered as their first FUND comes");
        TrustDesk x = new TrustDesk();
        add(x, 10, 0, "1");
        for (int i = 0; i < 3; i++) {
            add(x, 10, 0, "" + (2 + i));
        }
        for (int i = 3; i >= 0; i--) {
            add(x, 0, 10, "" + (1 + i));
        }
        Check.same("pairs", x.group(255), 0);
        groupsAre(x, 255, 0, 1, 2, 3, 3, 2, 1, 0);
        Check.same("without fund 0", x.group(254), 0);
        groupsAre(x, 254, 0, 1, 2, 2, 1, 0, 3);
        Check.act(x, 0, "keep 2;");
        groupsAre(x, 255, 0, 1, 2, 3, 4, 5, 6, 7);
    }

    // ---- judging

    private static void judgedByWhatWasTold() {
        Check.sentence("JUDGED is a row of GROUPS told for FUNDS (0 to 7 each): what its IDLE is");
        TrustDesk x = new TrustDesk();
        add(x, 10, 0, "1");
        add(x, 0, 4, "1");
        add(x, 0, 7, "1");
        Check.same("all in group 0 at first", x.judge(7), 0);
        x.lay(2, 5);
        Check.same("the third apart", x.judge(7), 6);
        x.lay(1, 5);
        Check.same("two apart", x.judge(7), 10);
        x.lay(0, 5);
        Check.same("all together again", x.judge(7), 0);
        x.lay(0, 7);
        Check.same("in the last group", x.judge(7), 10);
        Check.same("some of them", x.judge(3), 10);
        Check.same("one", x.judge(1), 10);
        Check.same("needs alone", x.judge(6), 0);
    }

    private static void judgedCantBe() {
        Check.sentence("what its IDLE is, if it can be so");
        TrustDesk x = new TrustDesk();
        add(x, 10, 0, "1 2");
        add(x, 0, 4, "2 3");
        add(x, 0, 7, "1 3");
        Check.same("each two would do", x.judge(3), 6);
        Check.same("and these", x.judge(5), 3);
        Check.same("and these too", x.judge(6), 0);
        Check.same("but not all three", x.judge(7), -2);
        x.lay(2, 1);
        Check.same("apart", x.judge(7), 6);
        Check.act(x, 0, "keep 2;");
        Check.same("two marks to keep", x.judge(7), -2);
        x.lay(1, 2);
        Check.same("each alone", x.judge(7), 10);
    }

    private static void rowsOfNoughtToSeven() {
        Check.sentence("a row of GROUPS told for FUNDS (0 to 7 each)");
        TrustDesk x = new TrustDesk();
        for (int i = 0; i < 9; i++) {
            add(x, 1 + i, 0, "");
        }
        for (int fund = 0; fund < 8; fund++) {
            Check.yes("group " + fund, x.lay(fund, fund));
        }
        Check.same("eight groups", x.judge(255), 36);
        Check.no("group 8", x.lay(0, 8));
        Check.no("group -1", x.lay(0, -1));
        Check.same("as it was", x.judge(255), 36);
        Check.same("the ninth and the first in group 0", x.judge(1 << 8 | 1), -2);
        Check.same("the ninth and the second", x.judge(1 << 8 | 2), 11);
    }

    // ---- why

    private static void whyTheFirstThatDoesNotHold() {
        Check.sentence("its COND's comparisons are numbered as they stand in the text, from 0 on; the first of these"
                + " that does not hold");
        TrustDesk x = new TrustDesk();
        Check.fund(x, 0, 0, "end a pays 1 if 1=2;end b pays 1 if 1=1 and 1=2;end c pays 1 if 1=1 and [2=2 and 1=2] and 1=3;"
                + "end d pays 1 if 1=1;end e pays 1 if poor=0 and maids=0 and boys=0;");
        int[] want = {0, 1, 2, -1, -1};
        for (int end = 0; end < 5; end++) {
            Check.same("end " + end, x.why(0, end, 0, 0), want[end]);
        }
        x.fact(2, 5, 1);
        x.fact(1, 6, 1);
        x.days(1);
        x.fact(0, 6, 1);
        Check.same("year 4", x.why(0, 4, 4, 1), -1);
        Check.same("year 5", x.why(0, 4, 5, 1), 2);
        Check.same("year 6 as known on day 0", x.why(0, 4, 6, 0), 1);
        Check.same("year 6 as known on day 1", x.why(0, 4, 6, 1), 0);
        TrustDesk y = new TrustDesk();
        Check.fund(y, 0, 7, "end a pays 1 if income=7 and coin=0;");
        Check.fund(y, 0, 9, "end a pays 1 if 1=1 and income=9 and coin=8;");
        Check.same("by income and coin", y.why(0, 0, 0, 0), -1);
        Check.same("by income and coin of another", y.why(1, 0, 0, 0), 2);
        y.days(360);
        Check.same("by coin as it is now", y.why(0, 0, 0, 0), 1);
        Check.same("the income of the other one", y.why(1, 0, 0, 0), 2);
    }

    private static void whyWhateverTheCondMakesOfIt() {
        Check.sentence("(whatever the COND makes of it)");
        TrustDesk x = new TrustDesk();
        Check.fund(x, 0, 0, "end a pays 1 if not 1=2;end b pays 1 if 1=1 or 1=2;end c pays 1 if 1=2 or 1=1;"
                + "end d pays 1 if not 1=1;end e pays 1 if 1=1 or 1=1 or 1=2 and 1=3;");
        int[] why = {0, 1, 0, -1, 2};
        int[] due = {1, 1, 1, -2, 1};
        for (int end = 0; end < 5; end++) {
            Check.same("why " + end, x.why(0, end, 0, 0), why[end]);
            Check.same("due " + end, x.due(0, end, 0, 0), due[end]);
        }
    }

    private static void whyNumbersOnAndOn() {
        Check.sentence("numbered as they stand in the text, from 0 on");
        TrustDesk x = new TrustDesk();
        Check.fund(x, 0, 0, "end a pays 1 if " + "1=1or ".repeat(62) + "1=2;");
        Check.same("number 62", x.why(0, 0, 0, 0), 62);
        Check.fund(x, 0, 0, "end a pays 1 if 1=1;end b pays 1 if 1=1 and 1=2;");
        Check.same("each end from 0 on", x.why(1, 1, 0, 0), 1);
    }

    // ---- accounts

    private static void accountOfAClosedYear() {
        Check.sentence("ACCOUNTS: of a FUND for a YEAR that is closed");
        TrustDesk x = new TrustDesk();
        Check.fund(x, 0, 0, "");
        Check.same("year 0 on day 0", x.account(0, 0), -1);
        x.days(359);
        Check.same("on its last day", x.account(0, 0), -1);
        x.days(1);
        Check.same("behind it", x.account(0, 0), 0);
        Check.same("the year at hand", x.account(0, 1), -1);
        Check.same("the year behind it", x.account(0, 2), -1);
        Check.same("one was given", x.count(9), 1);
    }

    private static void accountOnce() {
        Check.sentence("once");
        TrustDesk x = new TrustDesk();
        Check.fund(x, 0, 0, "");
        Check.fund(x, 0, 0, "");
        x.days(720);
        Check.same("given", x.account(0, 0), 271);
        Check.same("given already", x.account(0, 0), -1);
        Check.same("of another year", x.account(0, 1), 0);
        Check.same("of another fund", x.account(1, 0), 271);
        Check.same("given already too", x.account(1, 0), -1);
        Check.same("three", x.count(9), 3);
    }

    private static void twoHundredAccounts() {
        Check.sentence("at most 200");
        TrustDesk x = new TrustDesk();
        for (int i = 0; i < 3; i++) {
            Check.fund(x, 0, 0, "");
        }
        Check.spans(x, 50);
        for (int i = 0; i < 199; i++) {
            x.account(i / 100, i % 100);
        }
        Check.same("refused ones don't count", x.account(0, 0), -1);
        Check.same("199", x.count(9), 199);
        Check.same("the 200th", x.account(1, 99), 0);
        Check.same("the 201st", x.account(2, 99), -1);
        Check.same("200", x.count(9), 200);
    }

    private static void accountInTime() {
        Check.sentence("in time, if on a DAY no later than late behind its last DAY; else so many DAYS late");
        int[] lates = {1, 2, 90, 720};
        for (int late : lates) {
            TrustDesk x = new TrustDesk();
            Check.act(x, 0, "late " + late + ";");
            for (int i = 0; i < 4; i++) {
                Check.fund(x, 0, 0, "");
            }
            x.days(359);
            if (late > 1) {
                x.days(late - 1);
                Check.same("the day ahead of " + late, x.account(0, 0), 0);
            }
            x.days(1);
            Check.same("on day " + late, x.account(1, 0), 0);
            x.days(1);
            Check.same("the day behind " + late, x.account(2, 0), 1);
            x.days(9);
            Check.same("ten days behind " + late, x.account(3, 0), 10);
        }
        TrustDesk y = new TrustDesk();
        Check.fund(y, 0, 0, "");
        Check.spans(y, 50);
        Check.same("a hundred years late", y.account(0, 0), 36000 - 359 - 90);
    }

    private static void accountByTheActOfTheLastDay() {
        Check.sentence("late (of the ACT in force on the last DAY of that YEAR)");
        TrustDesk x = new TrustDesk();
        for (int i = 0; i < 2; i++) {
            Check.fund(x, 0, 0, "");
        }
        Check.act(x, 0, "late 10;");
        Check.act(x, 359, "late 20;");
        Check.act(x, 360, "late 30;");
        Check.act(x, 719, "late 40;");
        x.days(720);
        x.days(100);
        Check.same("year 0: from day 359", x.account(0, 0), 820 - 359 - 20);
        Check.same("year 1: from day 719", x.account(0, 1), 820 - 719 - 40);
        Check.act(x, 719, "late 99;");
        Check.same("as it is now known", x.account(1, 1), 2);
    }
}
