/** Promises 11 and 20 to 27: days, years that close, coin, income, parts, ends and entries. */
public final class YearsTest {
    public static void main(String[] args) {
        days();
        closing();
        askingMoreThanThereIs();
        oneEndBehindTheOther();
        gain();
        failing();
        actOfTheLastDay();
        whatIsKnownAtTheClose();
        mostCoin();
        leadingBack();
        income();
        due();
        boundsOfSums();
        why();
        conditions();
        entries();
        endOf();
        Check.done();
    }

    // promise 11
    private static void days() {
        TrustDesk x = new TrustDesk();
        Check.same("none", x.days(0), -1);
        Check.same("below", x.days(-1), -1);
        Check.same("above", x.days(721), -1);
        Check.same("the least", x.days(1), 1);
        Check.same("the most", x.days(720), 721);
        Check.same("year", x.count(1), 2);
        for (int day = 1441; day <= 35281; day += 720) {
            Check.same("on", x.days(720), day);
        }
        Check.same("above the last day", x.days(720), -1);
        Check.same("up to it", x.days(719), 36000);
        Check.same("year 100", x.count(1), 100);
        Check.same("no more", x.days(1), -1);
        Check.same("overflow", x.days(Integer.MAX_VALUE), -1);
    }

    private static void closing() {
        TrustDesk x = new TrustDesk();
        Check.fund(x, 2, 5, "");
        x.fact(6, 0, 10);
        Check.same("359", x.days(359), 359);
        Check.same("not yet", x.coin(0), 0);
        Check.same("360", x.days(1), 360);
        Check.same("closed", x.coin(0), 25);
        Check.same("two years", x.days(720), 1080);
        Check.same("both closed", x.coin(0), 75);
        Check.same("no such fund", x.coin(1), -1);
        Check.same("below", x.coin(-1), -1);
        x.days(718);
        Check.same("one closes", x.coin(0), 100);
        x.days(2);
        Check.same("the other", x.coin(0), 125);
    }

    private static void askingMoreThanThereIs() {
        TrustDesk x = new TrustDesk();
        Check.fund(x, 0, 10, "end a pays 11 if 1=1;end b pays 11 if 1=1 part;end c pays 1 if 1=1;");
        Check.fund(x, 0, 10, "end a pays 10 if 1=1;end b pays 1 if 1=1 part;end c pays 0 if 1=1;");
        x.days(360);
        Check.same("part", x.paid(0), 10);
        Check.same("coin is gone", x.coin(0), 0);
        Check.same("just as much", x.paid(1), 10);
        Check.same("entries without nothing", x.count(7), 2);
        Check.same("the end that took part", x.entry(0, 2), 1);
        Check.same("unpaid is not failed", x.endOf(0, 0, 1), 0);
        Check.same("paid of no founder", x.paid(2), -1);
        Check.same("below", x.paid(-1), -1);
    }

    private static void oneEndBehindTheOther() {
        TrustDesk x = new TrustDesk();
        Check.fund(x, 0, 100, "end a pays coin-60 if coin=100;end b pays coin if coin=60;");
        x.days(360);
        Check.same("first", x.entry(0, 3), 40);
        Check.same("second", x.entry(1, 3), 60);
        Check.same("all", x.coin(0), 0);
    }

    private static void gain() {
        TrustDesk x = new TrustDesk();
        Check.act(x, 360, "gain 7;");
        Check.fund(x, 0, 99, "");
        x.days(360);
        Check.same("without", x.coin(0), 99);
        x.days(360);
        Check.same("rounded down, ahead of income", x.coin(0), 99 + 6 + 99);
    }

    private static void failing() {
        TrustDesk x = new TrustDesk();
        Check.act(x, 0, "fail 2;");
        Check.fund(x, 0, 1, "end a pays 1 if poor>0;end b pays 0 if poor=0;");
        x.fact(0, 1, 1);
        x.fact(0, 2, 0);
        x.days(360);
        Check.same("one failed", x.endOf(0, 0, 1), 1);
        Check.same("living", x.endOf(0, 0, 0), 0);
        x.days(360);
        Check.same("none any more", x.endOf(0, 0, 1), 0);
        Check.same("the other one failed", x.endOf(0, 1, 1), 1);
        x.days(720);
        Check.same("dead", x.endOf(0, 0, 0), 1);
        Check.same("in its year", x.endOf(0, 0, 2), 3);
        Check.same("failed years", x.endOf(0, 0, 1), 2);
        Check.same("the other lives", x.endOf(0, 1, 0), 0);
        Check.same("and has not died", x.endOf(0, 1, 2), -1);
        x.fact(0, 4, 1);
        x.days(360);
        Check.same("dead ones stay so", x.endOf(0, 0, 1), 2);
        Check.same("and are not paid", x.count(7), 1);
        Check.same("without any rule", deathYear(""), 2);
        Check.same("fail 1", deathYear("fail 1;"), 0);
        Check.same("fail 50", deathYear("fail 50;"), 49);
    }

    private static int deathYear(String act) {
        TrustDesk x = new TrustDesk();
        Check.act(x, 0, act);
        Check.fund(x, 0, 0, "end a pays 1 if 1=0;");
        for (int i = 0; i < 25; i++) {
            x.days(720);
        }
        return x.endOf(0, 0, 2);
    }

    private static void actOfTheLastDay() {
        TrustDesk x = new TrustDesk();
        Check.act(x, 359, "gain 10;");
        Check.act(x, 360, "gain 20;");
        Check.fund(x, 0, 100, "");
        x.days(360);
        x.days(360);
        Check.same("of day 719", x.coin(0), 220);
        TrustDesk y = new TrustDesk();
        Check.act(y, 0, "gain 20;");
        Check.act(y, 719, "gain 10;");
        Check.fund(y, 0, 100, "");
        y.days(720);
        Check.same("of day 719 itself", y.coin(0), 210);
    }

    private static void whatIsKnownAtTheClose() {
        TrustDesk x = new TrustDesk();
        Check.fund(x, 1, 0, "end a pays poor if 1=1;");
        x.fact(6, 0, 100);
        x.fact(0, 1, 7);
        x.days(360);
        Check.same("nothing asked of year 0", x.count(7), 0);
        x.fact(0, 0, 50);
        x.days(360);
        Check.same("of its year", x.entry(0, 3), 7);
        x.days(360);
        Check.same("of the year ahead", x.entry(1, 3), 7);
        Check.same("its year", x.entry(1, 0), 2);
    }

    private static void mostCoin() {
        TrustDesk x = new TrustDesk();
        Check.act(x, 0, "gain 20;");
        Check.fund(x, 999, 99999, "");
        x.fact(6, 0, 9999);
        long coin = 0;
        for (int year = 0; year < 100; year += 2) {
            x.days(720);
            for (int i = 0; i < 2; i++) {
                coin = Math.min(coin + coin / 5, 1000000000000000L);
                coin = Math.min(coin + 999 * 9999 + 99999, 1000000000000000L);
            }
            Check.same("coin of " + year, x.coin(0), coin);
        }
        Check.same("no more than that", x.coin(0), 1000000000000000L);
    }

    // promises 22 and 23
    private static void leadingBack() {
        TrustDesk x = new TrustDesk();
        Check.act(x, 0, "days 1;keep 0;");
        Check.fund(x, 0, 0, "");
        Check.fund(x, 0, 0, "");
        Check.fund(x, 0, 7, "end a pays 7 if 1=1;");
        Check.fund(x, 0, 0, "");
        Check.same("its own", x.part(2, 2), 1000000);
        Check.same("of no other", x.part(2, 0), 0);
        Check.same("no such founder", x.part(2, 4), -1);
        Check.same("no such fund", x.part(4, 2), -1);
        Check.same("below", x.part(-1, 0), -1);
        Check.same("founder below", x.part(0, -1), -1);
        for (int i = 0; i < 3; i++) {
            x.trustee(i, i);
            x.trustee(2, i);
        }
        x.propose(1, 0, 2);
        x.vote(0, 0, true);
        x.propose(1, 1, 2);
        x.vote(1, 1, true);
        x.days(2);
        Check.same("worth of one alone", x.settle(0), 0);
        Check.same("all parts are its own", x.part(2, 2), 1000000);
        Check.same("none", x.part(2, 0), 0);
        x.days(360);
        Check.same("all to it", x.paid(2), 7);
        Check.same("nothing", x.paid(0), 0);
        TrustDesk y = new TrustDesk();
        Check.act(y, 0, "days 1;keep 0;");
        Check.fund(y, 0, 0, "");
        Check.fund(y, 0, 0, "");
        Check.fund(y, 0, 0, "");
        for (int i = 0; i < 3; i++) {
            y.trustee(i, 9);
        }
        y.propose(1, 0, 1);
        y.vote(0, 9, true);
        y.propose(1, 2, 1);
        y.vote(1, 9, true);
        y.days(2);
        Check.same("both worth nothing", y.settle(0), 0);
        Check.same("halves", y.part(1, 0), 500000);
        Check.same("settle", y.settle(1), 0);
        Check.same("quarters", y.part(1, 0), 250000);
        Check.same("quarters too", y.part(1, 1), 250000);
        Check.same("half", y.part(1, 2), 500000);
        Check.same("told as they were", y.part(0, 0), 1000000);
        remainders();
        remaindersPassOneWithoutPart();
    }

    private static void remaindersPassOneWithoutPart() {
        TrustDesk x = new TrustDesk();
        Check.act(x, 0, "days 1;keep 0;");
        Check.fund(x, 0, 0, "");
        Check.fund(x, 0, 1, "");
        Check.fund(x, 0, 2, "end b pays 5 if 1=1 part;");
        x.trustee(1, 9);
        x.trustee(2, 9);
        x.propose(1, 1, 2);
        x.vote(0, 9, true);
        x.days(2);
        Check.same("joined", x.settle(0), 0);
        Check.same("no part", x.part(2, 0), 0);
        Check.same("left over to the least that has some", x.part(2, 1), 333334);
        Check.same("two thirds", x.part(2, 2), 666666);
        x.days(358);
        Check.same("nothing without a part", x.paid(0), 0);
        Check.same("the one left over", x.paid(1), 2);
        Check.same("its share", x.paid(2), 1);
    }

    private static void remainders() {
        TrustDesk x = new TrustDesk();
        Check.act(x, 0, "days 1;keep 0;");
        Check.fund(x, 0, 1, "");
        Check.fund(x, 0, 0, "end a pays 2 if 1=1;");
        Check.fund(x, 0, 2, "end b pays 5 if 1=1 part;");
        for (int i = 0; i < 3; i++) {
            x.trustee(i, 9);
        }
        x.propose(1, 0, 2);
        x.vote(0, 9, true);
        x.days(2);
        Check.same("joined", x.settle(0), 0);
        Check.same("a third and what is left over", x.part(2, 0), 333334);
        Check.same("two thirds", x.part(2, 2), 666666);
        x.days(358);
        Check.same("one of three and the one left over", x.paid(0), 2);
        Check.same("one of three", x.paid(2), 1);
        Check.same("nothing to one without a part", x.paid(1), 0);
        x.days(360);
        Check.same("again", x.paid(0), 4);
        Check.same("again one", x.paid(2), 2);
    }

    // promise 21
    private static void income() {
        TrustDesk x = new TrustDesk();
        Check.fund(x, 999, 99999, "");
        Check.same("without rent", x.income(0, 50, 0), 99999);
        x.days(3);
        x.fact(6, 4, 9999);
        Check.same("the most", x.income(0, 4, 3), 999 * 9999 + 99999);
        Check.same("of a later year", x.income(0, 100, 3), 999 * 9999 + 99999);
        Check.same("of a year ahead", x.income(0, 3, 3), 99999);
        Check.same("as known ahead", x.income(0, 4, 2), 99999);
        Check.same("not known yet", x.income(0, 4, 4), -1);
        Check.same("day below", x.income(0, 4, -1), -1);
        Check.same("year above", x.income(0, 101, 3), -1);
        Check.same("year below", x.income(0, -1, 3), -1);
        Check.same("no such fund", x.income(1, 4, 3), -1);
        Check.same("below", x.income(-1, 4, 3), -1);
    }

    // promise 25
    private static void due() {
        TrustDesk x = new TrustDesk();
        Check.fund(x, 1, 5, "end a pays 3-poor if income>4;end b pays coin+income if coin>0;");
        Check.same("asks", x.due(0, 0, 0, 0), 3);
        Check.same("isn't", x.due(0, 1, 0, 0), -2);
        x.fact(0, 7, 9);
        Check.same("nothing at least", x.due(0, 0, 7, 0), 0);
        Check.same("another year", x.due(0, 0, 6, 0), 3);
        x.days(360);
        Check.same("coin as it is now", x.due(0, 1, 0, 0), 7);
        Check.same("as known on a day", x.due(0, 0, 7, 360), 0);
        Check.same("day above", x.due(0, 0, 7, 361), -1);
        Check.same("day below", x.due(0, 0, 7, -1), -1);
        Check.same("year above", x.due(0, 0, 101, 0), -1);
        Check.same("year below", x.due(0, 0, -1, 0), -1);
        Check.same("no such end", x.due(0, 2, 0, 0), -1);
        Check.same("end below", x.due(0, -1, 0, 0), -1);
        Check.same("no such fund", x.due(1, 0, 0, 0), -1);
        TrustDesk y = new TrustDesk();
        Check.act(y, 0, "gain 20;");
        Check.fund(y, 999, 99999, "end a pays coin if poor=0;");
        y.fact(6, 0, 9999);
        y.fact(0, 0, 1);
        y.fact(0, 100, 0);
        for (int i = 0; i < 50; i++) {
            y.days(720);
        }
        Check.yes("much coin", y.coin(0) > 1000000000);
        Check.same("coin at most so much", y.due(0, 0, 100, 36000), 1000000000);
        Check.same("not due by facts", y.due(0, 0, 99, 36000), -2);
    }

    private static void boundsOfSums() {
        Check.asks("9999*9999*9999", 1000000000);
        Check.asks("9999*9999*9999-1", 999999999);
        Check.asks("9999*9999*9999+9999-1", 999999999);
        Check.asks("(0-9999)*9999*9999+9999*9999*9999+5", 5);
        Check.asks("(0-9999*9999*9999-9999)+9999*9999*9999", 0);
        Check.asks("1+2*3", 7);
        Check.asks("10-3-2", 5);
        Check.asks("10-(3-2)", 9);
        Check.asks("0007*0010", 70);
    }

    // promise 26
    private static void why() {
        TrustDesk x = new TrustDesk();
        Check.fund(x, 0, 0, "end a pays 1 if 1=1 and [2<1 or not 3>2] and 0>1;"
                + "end b pays 1 if not 1=2;end c pays 1 if poor=0 and (1)+1>1;");
        Check.same("the first that doesn't hold", x.why(0, 0, 0, 0), 1);
        Check.same("though it is due", x.due(0, 1, 0, 0), 1);
        Check.same("whatever not makes of it", x.why(0, 1, 0, 0), 0);
        Check.same("all hold", x.why(0, 2, 0, 0), -1);
        x.fact(0, 3, 1);
        Check.same("in that year", x.why(0, 2, 3, 0), 0);
        Check.same("in a year ahead", x.why(0, 2, 2, 0), -1);
        Check.same("no such end", x.why(0, 3, 0, 0), -1);
        Check.same("no such fund", x.why(1, 0, 0, 0), -1);
        Check.same("end below", x.why(0, -1, 0, 0), -1);
        Check.same("year above", x.why(0, 0, 101, 0), -1);
        Check.same("day above", x.why(0, 0, 0, 1), -1);
        Check.fund(x, 0, 0, "end a pays 1 if 1=1" + " and 1=1".repeat(40) + " or 1=2;");
        Check.same("number 41", x.why(1, 0, 0, 0), 41);
        Check.fund(x, 0, 9, "end a pays 1 if 1=1 and income=9 and coin=0;");
        Check.same("by income and coin", x.why(2, 0, 0, 0), -1);
        x.days(360);
        Check.same("coin as it is now", x.why(2, 0, 0, 0), 2);
    }

    private static void conditions() {
        String[] true1 = {"1<2", "2>1", "1=1", "not 1=2", "not not 1=1", "1=2 or 1=1", "1=1 or 1=2 and 1=2",
            "[1=1 or 1=2] and 1=1", "not 1=2 and 1=1", "not [1=1 and 1=2]", "[[[[1=1]]]]",
            "maids+1=1", "not not not 1=2", "1=2 and 1=2 or 1=1", "not[1=2]and(1)<2"};
        for (String condition : true1) {
            Check.holds(condition, true);
        }
        String[] false1 = {"2<2", "2>2", "1=2", "not 1=1", "[1=1 or 1=1] and 1=2", "not [1=2 or 1=1]",
            "1=1 and 1=1 and 1=2", "not 1=1 or 1=2", "0-1>0"};
        for (String condition : false1) {
            Check.holds(condition, false);
        }
        TrustDesk x = new TrustDesk();
        Check.fund(x, 0, 0, "end a pays 10*(10*(10*(10*(10*(10*poor)))) if 1=1;");
        Check.same("too many brackets", x.count(4), 0);
        String[] names = {"poor", "maids", "boys", "sick", "bread", "coal", "rent", "lake"};
        for (int i = 0; i < 8; i++) {
            TrustDesk y = new TrustDesk();
            y.fact(i, 0, 77);
            Check.fund(y, 0, 0, "end a pays " + names[i] + " if " + names[i] + "=77;");
            Check.same(names[i], y.due(0, 0, 0, 0), 77);
        }
    }

    // promise 27
    private static void entries() {
        TrustDesk x = new TrustDesk();
        String six = "end a pays 1 if 1=1;end b pays 2 if 1=1;end c pays 3 if 1=1;"
                + "end d pays 4 if 1=1;end e pays 5 if 1=1;end f pays 6 if 1=1;";
        Check.fund(x, 0, 100, six);
        Check.fund(x, 0, 100, six);
        x.days(720);
        Check.same("two years", x.count(7), 24);
        Check.same("year", x.entry(20, 0), 1);
        Check.same("fund", x.entry(20, 1), 1);
        Check.same("end", x.entry(20, 2), 2);
        Check.same("paid", x.entry(20, 3), 3);
        Check.same("first fund first", x.entry(17, 1), 0);
        Check.same("what above", x.entry(20, 4), -1);
        Check.same("what below", x.entry(20, -1), -1);
        Check.same("none yet", x.entry(24, 0), -1);
        Check.same("below", x.entry(-1, 0), -1);
        for (int i = 1; i < 50; i++) {
            x.days(720);
        }
        Check.same("at most", x.count(7), 600);
        Check.same("the last", x.entry(599, 0), 49);
        Check.same("no later one", x.entry(600, 0), -1);
        Check.same("but paid", x.paid(1), 2100);
        Check.same("highest", x.entry(Integer.MAX_VALUE, 3), -1);
    }

    // promise 24
    private static void endOf() {
        TrustDesk x = new TrustDesk();
        Check.fund(x, 0, 0, "end abc pays 1 if 1=1;");
        Check.same("state", x.endOf(0, 0, 0), 0);
        Check.same("failed", x.endOf(0, 0, 1), 0);
        Check.same("died", x.endOf(0, 0, 2), -1);
        Check.same("letters", x.endOf(0, 0, 3), 3);
        Check.same("what above", x.endOf(0, 0, 4), -1);
        Check.same("what below", x.endOf(0, 0, -1), -1);
        Check.same("no such end", x.endOf(0, 1, 0), -1);
        Check.same("end below", x.endOf(0, -1, 0), -1);
        Check.same("no such fund", x.endOf(1, 0, 0), -1);
    }
}
