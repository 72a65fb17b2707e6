/** Promises 12 to 19: trustees, schemes of four kinds, objections, votes, and what funds become. */
public final class SchemesTest {
    public static void main(String[] args) {
        trustees();
        proposing();
        objecting();
        voting();
        settlingTooEarly();
        cannotBe();
        bars();
        marksLeft();
        votesNeeded();
        objectionsStand();
        orderOfReasons();
        nearMade();
        saleMade();
        strikeMade();
        joinMade();
        joinWithTooManyEnds();
        joinedFundKeeps();
        mostOfBoth();
        worths();
        fundOf();
        Check.done();
    }

    // promise 12
    private static void trustees() {
        TrustDesk x = new TrustDesk();
        Check.fund(x, 0, 0, "trust 2 1;");
        Check.fund(x, 0, 0, "");
        Check.yes("least person", x.trustee(0, 0));
        Check.no("is one", x.trustee(0, 0));
        Check.no("person above", x.trustee(0, 100));
        Check.no("person below", x.trustee(0, -1));
        Check.no("no such fund", x.trustee(2, 1));
        Check.no("fund below", x.trustee(-1, 1));
        Check.yes("greatest person", x.trustee(0, 99));
        Check.no("as many as may be", x.trustee(0, 50));
        Check.same("two", x.fundOf(0, 7), 2);
        for (int person = 0; person < 7; person++) {
            Check.yes("seven without", x.trustee(1, person));
        }
        Check.no("an eighth", x.trustee(1, 7));
    }

    // promises 13 and 18
    private static void proposing() {
        TrustDesk x = Check.desk("", "mark 1;", "mark 1;");
        Check.near(x, 1, "end a pays 1 if 1=1;");
        Check.same("no such fund", x.propose(2, 2, 1), -1);
        Check.same("fund below", x.propose(2, -1, 1), -1);
        Check.same("kind below", x.propose(-1, 0, 1), -1);
        Check.same("kind above", x.propose(4, 0, 1), -1);
        Check.same("no such near end", x.propose(0, 0, 1), -1);
        Check.same("near end below", x.propose(0, 0, -1), -1);
        Check.same("no such other fund", x.propose(1, 0, 2), -1);
        Check.same("other fund below", x.propose(1, 0, -1), -1);
        Check.same("no acres", x.propose(2, 0, 0), -1);
        Check.same("acres above", x.propose(2, 0, 1000), -1);
        Check.same("end below", x.propose(3, 0, -1), -1);
        Check.same("none yet", x.count(6), 0);
        Check.same("near", x.propose(0, 1, 0), 0);
        Check.same("join itself", x.propose(1, 1, 1), 1);
        Check.same("the most acres", x.propose(2, 1, 999), 2);
        Check.same("any end", x.propose(3, 1, Integer.MAX_VALUE), 3);
        x.days(10);
        Check.act(x, 10, "days 360;");
        Check.same("later", x.propose(2, 0, 5), 4);
        int[] want = {2, 0, 5, 10, 370, 0, 0, 0, 0, 0};
        for (int what = 0; what < 10; what++) {
            Check.same("scheme 4, " + what, x.scheme(4, what), want[what]);
        }
        Check.act(x, 10, "days 5;");
        Check.same("as it was known then", x.scheme(4, 4), 370);
        Check.same("the first one's", x.scheme(0, 4), 1);
        Check.same("x of an end", x.scheme(3, 2), Integer.MAX_VALUE);
        Check.same("what below", x.scheme(4, -1), -1);
        Check.same("what above", x.scheme(4, 10), -1);
        Check.same("no such one", x.scheme(5, 0), -1);
        Check.same("below", x.scheme(-1, 0), -1);
        for (int i = 5; i < 40; i++) {
            Check.same("scheme " + i, x.propose(2, 0, 1), i);
        }
        Check.same("a 41st", x.propose(2, 0, 1), -1);
        Check.same("forty", x.count(6), 40);
    }

    // promises 14 and 15
    private static void objecting() {
        TrustDesk x = new TrustDesk();
        Check.act(x, 0, "days 5;");
        Check.fund(x, 10, 0, "mark 1;");
        x.propose(2, 0, 1);
        Check.yes("least person", x.objects(0, 0));
        Check.no("already", x.objects(0, 0));
        Check.no("person above", x.objects(0, 100));
        Check.no("person below", x.objects(0, -1));
        Check.no("no such scheme", x.objects(1, 1));
        Check.no("scheme below", x.objects(-1, 1));
        for (int person = 91; person < 100; person++) {
            Check.yes("ten", x.objects(0, person));
        }
        Check.no("an eleventh", x.objects(0, 1));
        Check.same("ten stand", x.scheme(0, 7), 10);
        Check.yes("taken back", x.withdraws(0, 99));
        Check.no("there is none", x.withdraws(0, 99));
        Check.no("no such person", x.withdraws(0, 100));
        Check.no("person below 0", x.withdraws(0, -1));
        Check.no("no such scheme to take back", x.withdraws(1, 0));
        Check.same("nine stand", x.scheme(0, 7), 9);
        x.days(5);
        Check.yes("on the last day", x.objects(0, 99));
        Check.yes("taken back again", x.withdraws(0, 99));
        x.days(1);
        Check.no("too late", x.objects(0, 99));
        Check.yes("taken back at any time", x.withdraws(0, 98));
        Check.same("settled", x.settle(0), 4);
        Check.no("not open", x.withdraws(0, 97));
        Check.same("eight stood", x.scheme(0, 7), 8);
        TrustDesk y = new TrustDesk();
        Check.fund(y, 1, 0, "mark 1;");
        y.days(360);
        y.propose(2, 0, 1);
        y.days(30);
        Check.yes("thirty days without", y.objects(0, 1));
        y.days(1);
        Check.no("not 31", y.objects(0, 2));
    }

    // promise 16
    private static void voting() {
        TrustDesk x = Check.desk("", "mark 1;", "mark 1;", "mark 1;");
        x.trustee(0, 1);
        x.trustee(1, 2);
        x.trustee(2, 3);
        x.propose(2, 0, 1);
        x.propose(1, 0, 1);
        Check.yes("says yes", x.vote(0, 0, true));
        Check.yes("again", x.vote(0, 0, true));
        Check.same("one yes", x.scheme(0, 8), 1);
        Check.yes("says no", x.vote(0, 0, false));
        Check.same("none", x.scheme(0, 8), 0);
        Check.same("one no", x.scheme(0, 9), 1);
        Check.yes("another", x.vote(0, 1, false));
        Check.same("two no", x.scheme(0, 9), 2);
        Check.no("a trustee of another", x.vote(0, 2, true));
        Check.no("no trustee", x.vote(0, 50, true));
        Check.no("person above", x.vote(0, 100, true));
        Check.no("person below", x.vote(0, -1, true));
        Check.no("no such scheme", x.vote(2, 0, true));
        Check.no("scheme below", x.vote(-1, 0, true));
        Check.yes("of the one", x.vote(1, 1, true));
        Check.yes("of the other one", x.vote(1, 2, true));
        Check.yes("of both", x.vote(1, 0, true));
        Check.no("of a third", x.vote(1, 3, true));
        Check.same("three yes", x.scheme(1, 8), 3);
        x.days(2);
        Check.yes("behind the last day", x.vote(0, 0, true));
        Check.same("settled", x.settle(0), 0);
        Check.no("not open", x.vote(0, 1, true));
        Check.same("votes stay", x.scheme(0, 8), 1);
        Check.same("no too", x.scheme(0, 9), 1);
    }

    // promise 17
    private static void settlingTooEarly() {
        TrustDesk x = new TrustDesk();
        Check.act(x, 0, "days 5;");
        Check.fund(x, 10, 0, "mark 1;");
        x.trustee(0, 0);
        x.propose(2, 0, 1);
        x.vote(0, 0, true);
        Check.same("at once", x.settle(0), -1);
        x.days(5);
        Check.same("on the last day", x.settle(0), -1);
        Check.same("open", x.scheme(0, 5), 0);
        x.days(1);
        Check.same("behind it", x.settle(0), 0);
        Check.same("made", x.scheme(0, 5), 1);
        Check.same("by nothing", x.scheme(0, 6), 0);
        Check.same("not open", x.settle(0), -1);
        Check.same("no such one", x.settle(1), -1);
        Check.same("below", x.settle(-1), -1);
        Check.same("one made", x.count(10), 1);
    }

    private static void cannotBe() {
        TrustDesk x = Check.desk("", "mark 1;end a pays 1 if 1=1;", "mark 1;", "mark 1;");
        Check.near(x, 255, "end n pays 1 if 1=1;");
        Check.same("no dead end", Check.carried(x, 0, 0, 0), 1);
        Check.same("both are one", Check.carried(x, 1, 0, 0), 1);
        Check.same("not so many acres", Check.carried(x, 2, 0, 11), 1);
        Check.same("no such end", Check.carried(x, 3, 0, 1), 1);
        Check.same("failed", x.scheme(3, 5), 2);
        Check.same("by the first", x.scheme(3, 6), 1);
        Check.same("struck once", Check.carried(x, 3, 0, 0), 0);
        Check.same("struck already", Check.carried(x, 3, 0, 0), 1);
        Check.same("joined", Check.carried(x, 1, 1, 2), 0);
        Check.same("joined already", Check.carried(x, 1, 1, 0), 1);
        Check.same("the other one is", Check.carried(x, 1, 0, 1), 1);
        Check.same("sale of a joined one", Check.carried(x, 2, 1, 1), 1);
        Check.same("near of a joined one", Check.carried(x, 0, 1, 0), 1);
        Check.same("strike of a joined one", Check.carried(x, 3, 1, 0), 1);
    }

    private static void bars() {
        Check.same("barred", saleUnder("bar sale if 1=1;"), 2);
        Check.same("another kind", saleUnder("bar near if 1=1;bar join if 1=1;bar strike if 1=1;"), 0);
        Check.same("doesn't hold", saleUnder("bar sale if 1=2;"), 0);
        Check.same("one of them holds", saleUnder("bar sale if 1=2;bar sale if 1=1;bar sale if 1=2;"), 2);
        Check.same("living", saleUnder("bar sale if living=2;"), 2);
        Check.same("dead", saleUnder("bar sale if dead=1;"), 2);
        Check.same("marks", saleUnder("bar sale if marks=3;"), 2);
        Check.same("income of the year at hand", saleUnder("bar sale if income=170;"), 2);
        Check.same("coin", saleUnder("bar sale if coin=450;"), 2);
        Check.same("a fact of the year at hand", saleUnder("bar sale if poor=8;"), 2);
        Check.same("as known now", saleUnder("bar sale if poor=6;"), 0);
        Check.same("none holds", saleUnder("bar sale if not [living=2 and dead=1 and marks=3 and income=170 "
                + "and coin=450 and poor=8];"), 0);
        TrustDesk x = Check.desk("bar strike if 1=1;bar join if 1=1;bar near if 1=1;fail 1;",
                "mark 1;end a pays 1 if 1=2;", "mark 1;");
        Check.near(x, 255, "end n pays 1 if 1=1;");
        x.days(360);
        Check.same("strike", Check.carried(x, 3, 0, 0), 2);
        Check.same("join", Check.carried(x, 1, 0, 1), 2);
        Check.same("near", Check.carried(x, 0, 0, 0), 2);
        Check.act(x, 366, "");
        Check.same("by the act of the day at hand", Check.carried(x, 3, 0, 0), -1);
        x.days(30);
        Check.same("which has no bars", x.settle(3), 0);
    }

    /** Settles, in year 1, a sale by a fund with an income of 170 and 450 coin. */
    private static int saleUnder(String bars) {
        TrustDesk x = new TrustDesk();
        Check.act(x, 0, "fail 1;" + bars);
        Check.fund(x, 7, 100, "mark 1 2 5;end a pays 0 if 1=1;end b pays 0 if poor=99;end c pays 0 if 1=1;");
        x.trustee(0, 0);
        x.fact(0, 0, 5);
        x.fact(6, 0, 50);
        x.days(360);
        x.fact(0, 1, 6);
        x.fact(0, 1, 8);
        x.fact(6, 1, 10);
        x.propose(2, 0, 1);
        x.vote(0, 0, true);
        x.days(31);
        return x.settle(0);
    }

    private static void marksLeft() {
        TrustDesk x = Check.desk("keep 2;fail 1;", "mark 0 1 2;end a pays 1 if 1=2;", "mark 1 2 3;", "mark 2 3;", "mark 1;");
        Check.near(x, 5, "end n pays 1 if 1=1;");
        Check.near(x, 1 + 8, "end n pays 1 if 1=1;");
        x.days(360);
        Check.same("near with one mark", Check.carried(x, 0, 0, 1), 3);
        Check.same("near with two", Check.carried(x, 0, 0, 0), 0);
        Check.same("join with one", Check.carried(x, 1, 0, 1), 3);
        Check.same("join with two", Check.carried(x, 1, 1, 2), 0);
        Check.same("sale of one with two marks", Check.carried(x, 2, 0, 1), 0);
        Check.same("sale of one with one mark", Check.carried(x, 2, 3, 1), 3);
        TrustDesk y = Check.desk("keep 0;", "", "");
        Check.same("keep 0: sale", Check.carried(y, 2, 0, 1), 0);
        Check.same("keep 0: join", Check.carried(y, 1, 0, 1), 0);
    }

    private static void votesNeeded() {
        TrustDesk x = Check.desk("", "mark 1;trust 3 2;", "mark 1;trust 3 2;");
        x.trustee(0, 1);
        x.trustee(0, 2);
        x.trustee(1, 1);
        x.trustee(1, 3);
        int one = x.propose(2, 0, 1);
        x.vote(one, 0, true);
        x.vote(one, 1, false);
        x.vote(one, 2, false);
        int two = x.propose(2, 0, 1);
        x.vote(two, 0, true);
        x.vote(two, 1, true);
        x.vote(two, 2, false);
        int three = x.propose(1, 0, 1);
        x.vote(three, 0, true);
        x.vote(three, 2, true);
        int four = x.propose(1, 0, 1);
        x.vote(four, 0, true);
        x.vote(four, 3, true);
        int five = x.propose(1, 0, 1);
        x.vote(five, 0, true);
        x.vote(five, 1, true);
        x.days(2);
        Check.same("one yes of two", x.settle(one), 4);
        Check.same("two yes", x.settle(two), 0);
        Check.same("join: one of the other", x.settle(three), 4);
        Check.same("join: one of the fund", x.settle(four), 4);
        Check.same("trustees of both count in both", x.settle(five), 0);
        Check.same("said by two", x.scheme(five, 8), 2);
    }

    private static void objectionsStand() {
        TrustDesk x = Check.desk("", "mark 1;");
        int one = x.propose(2, 0, 1);
        int two = x.propose(2, 0, 1);
        x.vote(one, 0, true);
        x.vote(two, 0, true);
        x.objects(one, 5);
        x.objects(two, 5);
        x.days(2);
        Check.same("stands", x.settle(one), 5);
        Check.same("nothing sold", x.fundOf(0, 0), 10);
        x.withdraws(two, 5);
        Check.same("taken back", x.settle(two), 0);
        Check.same("sold", x.fundOf(0, 0), 9);
    }

    private static void orderOfReasons() {
        TrustDesk x = Check.desk("keep 2;bar sale if acres=1;", "");
        Check.same("such a word is no name", x.count(3), 0);
        TrustDesk y = Check.desk("keep 2;bar sale if poor=1;", "mark 1;");
        int[] all = new int[4];
        for (int i = 0; i < 4; i++) {
            all[i] = y.propose(2, 0, i == 0 ? 11 : 1);
            y.objects(all[i], 1);
        }
        y.fact(0, 0, 1);
        y.days(2);
        Check.same("1 ahead of 2", y.settle(all[0]), 1);
        Check.same("2 ahead of 3", y.settle(all[1]), 2);
        y.fact(0, 0, 0);
        Check.same("3 ahead of 4", y.settle(all[2]), 3);
        Check.act(y, 2, "keep 1;");
        Check.same("4 ahead of 5", y.settle(all[3]), 4);
    }

    private static void nearMade() {
        TrustDesk x = Check.desk("fail 1;", "mark 0 1 2;end a pays 1 if 1=1;end bb pays 1 if 1=2;end cc pays 1 if 1=2;");
        Check.near(x, 1 + 4 + 8, "end nnnn pays 9999 if 1=1 part;");
        x.days(360);
        Check.same("both dead", x.fundOf(0, 5), 2);
        Check.same("made", Check.carried(x, 0, 0, 0), 0);
        Check.same("the first of them lives", x.endOf(0, 1, 0), 0);
        Check.same("with no failed years", x.endOf(0, 1, 1), 0);
        Check.same("nor a year of death", x.endOf(0, 1, 2), -1);
        Check.same("by its text", x.endOf(0, 1, 3), 4);
        Check.same("the other one is dead", x.endOf(0, 2, 0), 1);
        Check.same("marks of both", x.fundOf(0, 2), 5);
        Check.same("asks", x.due(0, 1, 0, 0), 9999);
        x.days(358);
        Check.same("all coin by part", x.coin(0), 0);
        Check.same("entry", x.entry(2, 2), 1);
        Check.same("made again for the next", Check.carried(x, 0, 0, 0), 0);
        Check.same("none dead", x.fundOf(0, 5), 0);
        Check.same("three live", x.fundOf(0, 4), 3);
    }

    private static void saleMade() {
        TrustDesk x = new TrustDesk();
        Check.act(x, 0, "days 1;sell 3;");
        Check.fund(x, 10, 0, "mark 1;");
        x.trustee(0, 0);
        x.fact(6, 0, 7);
        int one = x.propose(2, 0, 4);
        x.vote(one, 0, true);
        x.days(2);
        x.fact(6, 0, 8);
        Check.act(x, 2, "sell 5;days 1;");
        Check.same("made", x.settle(one), 0);
        Check.same("by rent and sell of the day at hand", x.coin(0), 4 * 8 * 5);
        Check.same("acres", x.fundOf(0, 0), 6);
        x.days(358);
        x.fact(6, 2, 9999);
        Check.same("all", Check.carried(x, 2, 0, 6), 0);
        Check.same("by the year at hand", x.coin(0), 160 + 48 + 6 * 8 * 5);
        Check.same("no acres", x.fundOf(0, 0), 0);
    }

    private static void strikeMade() {
        TrustDesk x = Check.desk("fail 1;", "mark 1;end a pays 1 if 1=1;end b pays 1 if 1=2;");
        x.days(360);
        Check.same("a living one", Check.carried(x, 3, 0, 0), 0);
        Check.same("is struck", x.endOf(0, 0, 0), 2);
        Check.same("a dead one", Check.carried(x, 3, 0, 1), 0);
        Check.same("is struck too", x.endOf(0, 1, 0), 2);
        Check.same("its year of death stays", x.endOf(0, 1, 2), 0);
        Check.same("both are told", x.fundOf(0, 3), 2);
        Check.same("none lives", x.fundOf(0, 4), 0);
        Check.same("none is dead", x.fundOf(0, 5), 0);
        Check.same("due all the same", x.due(0, 0, 0, 0), 1);
        x.days(360);
        Check.same("but not paid", x.count(7), 1);
    }

    private static void joinMade() {
        TrustDesk x = Check.desk("fail 2;", "mark 0 1;end a pays 3 if 1=1;end b pays 0 if 1=2;end c pays 0 if 1=1;",
                "mark 1 2;end d pays 0 if 1=1;trust 2 1;");
        Check.same("struck", Check.carried(x, 3, 0, 2), 0);
        x.days(718);
        Check.same("coin of one", x.coin(0), 194);
        Check.same("joined", Check.carried(x, 1, 0, 1), 0);
        Check.same("to it", x.fundOf(0, 6), 1);
        Check.same("the other to none", x.fundOf(1, 6), -1);
        Check.same("coin of both", x.coin(1), 394);
        Check.same("acres", x.fundOf(1, 0), 20);
        Check.same("stock", x.fundOf(1, 1), 200);
        Check.same("marks that both have", x.fundOf(1, 2), 2);
        Check.same("ends but the struck one", x.fundOf(1, 3), 3);
        Check.same("behind its own", x.due(1, 1, 0, 0), 3);
        Check.same("as it was", x.endOf(1, 2, 0), 1);
        Check.same("with its year", x.endOf(1, 2, 2), 1);
        Check.same("and failed years", x.endOf(1, 2, 1), 2);
        Check.same("trustees of its own", x.fundOf(1, 7), 1);
        x.days(358);
        Check.same("a closed year", x.coin(1), 394 + 200 - 3);
        Check.same("nothing for the joined one", x.coin(0), 0);
        Check.same("entry of the other one", x.entry(2, 1), 1);
        Check.same("its end", x.entry(2, 2), 1);
    }

    private static void joinWithTooManyEnds() {
        StringBuilder six = new StringBuilder("mark 1;");
        for (char name = 'a'; name < 'g'; name++) {
            six.append("end ").append(name).append(" pays 1 if 1=1;");
        }
        TrustDesk x = Check.desk("", six.toString(), six.toString(), "mark 1;end z pays 1 if 1=1;");
        Check.same("twelve", Check.carried(x, 1, 0, 1), 0);
        Check.same("all of them", x.fundOf(1, 4), 12);
        Check.same("thirteen", Check.carried(x, 1, 1, 2), 1);
        Check.same("thirteen the other way", Check.carried(x, 1, 2, 1), 1);
        Check.same("one struck", Check.carried(x, 3, 1, 7), 0);
        Check.same("twelve again", Check.carried(x, 1, 2, 1), 0);
        Check.same("thirteen are told", x.fundOf(1, 3), 13);
        Check.same("twelve live", x.fundOf(1, 4), 12);
        Check.same("the last one", x.endOf(1, 12, 0), 0);
    }

    private static void joinedFundKeeps() {
        TrustDesk x = Check.desk("", "mark 1 3;end a pays 1 if 1=1;", "mark 1;", "mark 1 3;");
        Check.near(x, 8, "end n pays 1 if 1=1;");
        int open = x.propose(2, 0, 1);
        x.vote(open, 0, true);
        Check.same("joined", Check.carried(x, 1, 0, 1), 0);
        Check.same("coin", x.coin(0), 0);
        Check.same("acres", x.fundOf(0, 0), 0);
        Check.same("stock", x.fundOf(0, 1), 0);
        Check.same("marks as they were", x.fundOf(0, 2), 10);
        Check.same("ends", x.fundOf(0, 3), 1);
        Check.same("struck", x.endOf(0, 0, 0), 2);
        Check.same("no trustees", x.fundOf(0, 7), 0);
        Check.same("trust", x.fundOf(0, 8), 7);
        Check.same("parts as they were", x.part(0, 0), 1000000);
        Check.same("income", x.income(0, 0, 0), 0);
        Check.no("no trustee any more", x.trustee(0, 4));
        Check.no("no vote of its own", x.vote(open, 0, true));
        Check.same("a scheme of it", x.settle(open), 1);
        Check.same("marks with a near end", x.marks(0, 0, 0), 1);
        Check.same("due", x.due(0, 0, 0, 0), 1);
        Check.same("proposing is free", x.propose(2, 0, 1), 2);
        Check.same("founder", x.paid(0), 0);
        Check.same("two not joined", x.count(11), 2);
        Check.same("three funds", x.count(4), 3);
        Check.same("chain", Check.carried(x, 1, 1, 2), 0);
        Check.same("to which it is joined stays", x.fundOf(0, 6), 1);
        Check.yes("lay for a joined one", x.lay(0, 3));
    }

    private static void mostOfBoth() {
        TrustDesk x = new TrustDesk();
        Check.act(x, 0, "days 1;keep 0;");
        Check.fund(x, 500, 60000, "");
        Check.fund(x, 500, 60000, "");
        x.trustee(0, 0);
        x.trustee(1, 0);
        Check.same("joined", Check.carried(x, 1, 1, 0), 0);
        Check.same("acres at most", x.fundOf(0, 0), 999);
        Check.same("stock at most", x.fundOf(0, 1), 99999);
    }

    private static void worths() {
        TrustDesk x = new TrustDesk();
        Check.act(x, 0, "days 1;keep 0;gain 20;");
        Check.fund(x, 999, 99999, "");
        x.fact(6, 0, 9999);
        for (int i = 0; i < 46; i++) {
            x.days(720);
        }
        Check.fund(x, 999, 99999, "");
        x.trustee(0, 0);
        x.trustee(1, 0);
        Check.yes("more than the most", x.coin(0) > 1000000000000L);
        long other = 20L * (999 * 9999 + 99999);
        Check.same("joined", Check.carried(x, 1, 0, 1), 0);
        long part = other * 1000000 / (1000000000000L + other);
        Check.same("part of the poorer", x.part(1, 1), part);
        Check.same("and of the richer", x.part(1, 0), 1000000 - part);
    }

    // promise 19
    private static void fundOf() {
        TrustDesk x = new TrustDesk();
        Check.throwsNoSuch("no fund", x, 0, 0);
        Check.fund(x, 3, 4, "mark 7;trust 5 4;end a pays 1 if 1=1;");
        int[] want = {3, 4, 128, 1, 1, 0, -1, 0, 5, 4};
        for (int what = 0; what < 10; what++) {
            Check.same("fund's " + what, x.fundOf(0, what), want[what]);
        }
        Check.throwsNoSuch("what above", x, 0, 10);
        Check.throwsNoSuch("what below", x, 0, -1);
        Check.throwsNoSuch("fund above", x, 1, 0);
        Check.throwsNoSuch("fund below", x, -1, 0);
        Check.throwsNoSuch("far above", x, Integer.MAX_VALUE, Integer.MAX_VALUE);
    }
}
