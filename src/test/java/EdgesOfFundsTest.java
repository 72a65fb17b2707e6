/** The boundary cases of the document's section 2: funds, ends, years that close, parts and entries. */
public final class EdgesOfFundsTest {
    public static void main(String[] args) {
        twelveFunds();
        founders();
        marksOfAllClauses();
        acres();
        stock();
        coinAtFirst();
        mostCoinAtTheClose();
        mostCoinBySale();
        mostCoinByJoin();
        income();
        livingAtFirst();
        dueByFactsOfThatYear();
        dueByIncome();
        dueByCoinAsItIsNow();
        coinOfATextAtMost();
        asksNoughtAtLeast();

        partsAtFirst();
        closesAsTheLastDayEnds();
        twoYearsInOneCall();
        whatIsKnownOnThatDay();
        theActInForceOnThatDay();
        joinedOnesDoNotClose();
        fundByFund();
        gainRoundedDown();
        gainAheadOfIncome();
        oneEndBehindTheOther();
        asMuchCoinAsAsked();
        partTakesAllCoin();
        elseNothing();
        dueHasNoFailedYears();
        failedYearsOneMore();
        failOrMore();
        deadAndStruckOnesRest();
        ledBackRoundedDown();
        leftOverOneEach();
        allOfItIsLedBack();
        sixHundredEntries();
        entriesNotNought();
        Check.done();
    }

    private static void twelveFunds() {
        Check.sentence("FUNDS, at most 12, numbered as they come");
        TrustDesk x = new TrustDesk();
        for (int i = 0; i < 12; i++) {
            Check.same("fund " + i, Check.fund(x, i, 0, ""), i);
        }
        Check.same("a 13th", x.fund(0, 0), -1);
        Check.same("with a faulty text", Check.fund(x, 0, 0, "?"), -1);
        Check.same("twelve", x.count(4), 12);
        Check.same("the last", x.fundOf(11, 0), 11);
        Check.throwsNoSuch("a 13th", x, 12, 0);
    }

    private static void founders() {
        Check.sentence("each with a FOUNDER of the same number");
        TrustDesk x = new TrustDesk();
        Check.same("no founder", x.paid(0), -1);
        Check.fund(x, 0, 9, "end a pays 9 if 1=1;");
        Check.same("founder 0", x.paid(0), 0);
        Check.same("no founder 1", x.paid(1), -1);
        Check.fund(x, 0, 7, "end a pays 7 if 1=1;");
        Check.same("founder 1", x.paid(1), 0);
        x.days(360);
        Check.same("led back to founder 0", x.paid(0), 9);
        Check.same("led back to founder 1", x.paid(1), 7);
    }

    private static void marksOfAllClauses() {
        Check.sentence("MARKS (of all its mark clauses; 0 to 7)");
        TrustDesk x = new TrustDesk();
        Check.fund(x, 0, 0, "mark 0;end a pays 1 if 1=1;mark 7 3;trust 1 1;mark 3;");
        Check.same("of three clauses", x.fundOf(0, 2), 1 + 128 + 8);
        Check.fund(x, 0, 0, "trust 1 1;");
        Check.same("of none", x.fundOf(1, 2), 0);
    }

    private static void acres() {
        Check.sentence("ACRES (0 to 999)");
        TrustDesk x = new TrustDesk();
        Check.same("above", x.fund(1000, 0), -1);
        Check.same("below", x.fund(-1, 0), -1);
        Check.same("the most", x.fund(999, 0), 0);
        Check.same("the least", x.fund(0, 0), 1);
        Check.same("most", x.fundOf(0, 0), 999);
        Check.same("least", x.fundOf(1, 0), 0);
    }

    private static void stock() {
        Check.sentence("STOCK (0 to 99999)");
        TrustDesk x = new TrustDesk();
        Check.same("above", x.fund(0, 100000), -1);
        Check.same("below", x.fund(0, -1), -1);
        Check.same("the most", x.fund(0, 99999), 0);
        Check.same("the least", x.fund(0, 0), 1);
        Check.same("most", x.fundOf(0, 1), 99999);
        Check.same("least", x.fundOf(1, 1), 0);
    }

    private static void coinAtFirst() {
        Check.sentence("COIN (0 at first)");
        TrustDesk x = new TrustDesk();
        Check.fund(x, 999, 99999, "");
        x.fact(6, 0, 9999);
        Check.same("rich, but without coin", x.coin(0), 0);
        x.days(359);
        Check.same("on the last day", x.coin(0), 0);
    }

    /** A desk of day 36000 whose fund 0 has all the coin that there may be, and fund 1 too if told. */
    private static TrustDesk fullOfCoin(boolean both) {
        TrustDesk x = new TrustDesk();
        Check.act(x, 0, "gain 20;days 1;keep 0;sell 40;");
        Check.fund(x, 999, 99999, "");
        if (both) {
            Check.fund(x, 999, 99999, "");
        }
        x.fact(6, 0, 9999);
        x.trustee(0, 0);
        x.trustee(1, 0);
        Check.spans(x, 49);
        return x;
    }

    private static void mostCoinAtTheClose() {
        Check.sentence("1000000000000000 at most, what is more is lost");
        TrustDesk x = new TrustDesk();
        Check.act(x, 0, "gain 20;");
        Check.fund(x, 999, 99999, "");
        x.fact(6, 0, 9999);
        long coin = 0;
        long most = 1000000000000000L;
        int full = 0;
        for (int year = 0; year < 100; year++) {
            x.days(360);
            coin = Math.min(most, Math.min(most, coin + coin / 5) + 999 * 9999 + 99999);
            Check.same("behind year " + year, x.coin(0), coin);
            full += coin == most ? 1 : 0;
        }
        Check.yes("it was full for some years", full > 3);
        TrustDesk y = new TrustDesk();
        Check.act(y, 0, "gain 20;");
        Check.fund(y, 999, 99999, "end a pays 9999 if 1=1;");
        y.fact(6, 0, 9999);
        Check.spans(y, 50);
        Check.same("what is paid goes off from that", y.coin(0), most - 9999);
    }

    private static void mostCoinBySale() {
        Check.sentence("1000000000000000 at most, what is more is lost");
        TrustDesk x = fullOfCoin(false);
        Check.same("full", x.coin(0), 1000000000000000L);
        Check.same("a sale", Check.carried(x, 2, 0, 900), 0);
        Check.same("the acres are gone", x.fundOf(0, 0), 99);
        Check.same("but no more coin is there", x.coin(0), 1000000000000000L);
    }

    private static void mostCoinByJoin() {
        Check.sentence("1000000000000000 at most, what is more is lost");
        TrustDesk x = fullOfCoin(true);
        Check.same("full", x.coin(1), 1000000000000000L);
        Check.same("a join", Check.carried(x, 1, 0, 1), 0);
        Check.same("coin of both", x.coin(1), 1000000000000000L);
        Check.same("none is left", x.coin(0), 0);
        Check.same("like worths at their most", x.part(1, 0), 500000);
    }

    private static void income() {
        Check.sentence("INCOME in a YEAR as known on a DAY: ACRES times its rent, and STOCK");
        TrustDesk x = new TrustDesk();
        Check.fund(x, 999, 99999, "");
        Check.fund(x, 0, 0, "");
        Check.fund(x, 7, 0, "");
        Check.same("without a rent", x.income(0, 0, 0), 99999);
        x.days(1);
        x.fact(6, 1, 9999);
        Check.same("the most", x.income(0, 1, 1), 999 * 9999 + 99999);
        Check.same("the least", x.income(1, 1, 1), 0);
        Check.same("without stock", x.income(2, 1, 1), 7 * 9999);
        Check.same("the day ahead", x.income(2, 1, 0), 0);
        Check.same("the year ahead", x.income(2, 0, 1), 0);
        Check.same("a year behind", x.income(2, 2, 1), 7 * 9999);
    }

    private static void livingAtFirst() {
        Check.sentence("An END is LIVING (at first)");
        TrustDesk x = new TrustDesk();
        Check.fund(x, 0, 0, "end a pays 1 if 1=2;end b pays 0 if 1=1;");
        for (int end = 0; end < 2; end++) {
            Check.same("living", x.endOf(0, end, 0), 0);
            Check.same("without failed years", x.endOf(0, end, 1), 0);
            Check.same("not dead", x.endOf(0, end, 2), -1);
        }
    }

    private static void dueByFactsOfThatYear() {
        Check.sentence("it is DUE in a YEAR as known on a DAY, if its COND holds: by FACTS of that YEAR as known then");
        TrustDesk x = new TrustDesk();
        Check.fund(x, 0, 0, "end a pays poor+1 if poor>4;");
        x.days(10);
        x.fact(0, 3, 5);
        x.days(10);
        x.fact(0, 3, 4);
        x.fact(0, 4, 6);
        Check.same("ahead of all tellings", x.due(0, 0, 3, 9), -2);
        Check.same("as known on day 10", x.due(0, 0, 3, 10), 6);
        Check.same("as known on day 19", x.due(0, 0, 3, 19), 6);
        Check.same("as known on day 20", x.due(0, 0, 3, 20), -2);
        Check.same("of the year ahead", x.due(0, 0, 2, 20), -2);
        Check.same("of the year behind", x.due(0, 0, 4, 20), 7);
        Check.same("of that year by day 10", x.due(0, 0, 4, 10), 6);
        Check.same("of the last year", x.due(0, 0, 100, 20), 7);
    }

    private static void dueByIncome() {
        Check.sentence("income (INCOME)");
        TrustDesk x = new TrustDesk();
        Check.fund(x, 2, 10, "end a pays income if income>29;");
        x.fact(6, 1, 10);
        x.fact(6, 2, 9);
        Check.same("year 0", x.due(0, 0, 0, 0), -2);
        Check.same("year 1", x.due(0, 0, 1, 0), 30);
        Check.same("year 2", x.due(0, 0, 2, 0), -2);
    }

    private static void dueByCoinAsItIsNow() {
        Check.sentence("coin (COIN as it is now)");
        TrustDesk x = new TrustDesk();
        Check.fund(x, 0, 10, "end a pays coin+9999 if coin>19;end b pays coin+9999 if coin<20;");
        Check.same("no coin yet", x.due(0, 1, 0, 0), 9999);
        Check.same("so the other isn't", x.due(0, 0, 0, 0), -2);
        x.days(360);
        Check.same("ten, though asked for day 0", x.due(0, 1, 0, 0), 10009);
        x.days(360);
        Check.same("twenty", x.due(0, 0, 0, 0), 10019);
        Check.same("of any year", x.due(0, 0, 100, 720), 10019);
        Check.same("the other isn't now", x.due(0, 1, 1, 360), -2);
    }

    private static void coinOfATextAtMost() {
        Check.sentence("(COIN as it is now; 1000000000 at most, both)");
        TrustDesk x = new TrustDesk();
        Check.act(x, 0, "gain 20;");
        Check.fund(x, 999, 99999, "end a pays coin if coin=1000*1000*1000 and poor=1;"
                + "end b pays coin-1000*1000*1000+5 if coin>999*1000*1000;end c pays 7 if coin>1000*1000*1000;");
        x.fact(6, 0, 9999);
        x.fact(0, 1, 1);
        int year = 0;
        while (x.coin(0) < 1000000000L && year < 90) {
            Check.same("below it", x.due(0, 0, 1, 0), -2);
            x.days(360);
            year++;
        }
        Check.yes("above it", x.coin(0) > 1000000000L);
        Check.same("that", x.due(0, 0, 1, 0), 1000000000);
        Check.same("no more than that", x.due(0, 1, 0, 0), 5);
        Check.same("never above", x.due(0, 2, 0, 0), -2);
    }

    private static void asksNoughtAtLeast() {
        Check.sentence("What it asks: its SUM, 0 at least");
        Check.asks("0-1", 0);
        Check.asks("0-1000*1000*1000*1000", 0);
        Check.asks("1-1", 0);
        Check.asks("2-1", 1);
        TrustDesk x = new TrustDesk();
        Check.fund(x, 0, 10, "end a pays 0-5 if 1=1 part;end b pays coin if 1=1;");
        x.days(360);
        Check.same("nothing is taken", x.entry(0, 2), 1);
        Check.same("nor given", x.entry(0, 3), 10);
        Check.same("none for it", x.count(7), 1);
    }

    // ---- years that close

    private static void partsAtFirst() {
        Check.sentence("PARTS: of each FOUNDER millionths, 1000000 in all (at first all its own)");
        TrustDesk x = new TrustDesk();
        for (int i = 0; i < 12; i++) {
            x.fund(0, 0);
        }
        for (int i = 0; i < 12; i++) {
            Check.same("its own", x.part(i, i), 1000000);
            Check.same("of the next", x.part(i, (i + 1) % 12), 0);
            Check.same("of the one ahead", x.part(i, (i + 11) % 12), 0);
        }
    }

    private static void closesAsTheLastDayEnds() {
        Check.sentence("A YEAR CLOSES as its last DAY ends");
        TrustDesk x = new TrustDesk();
        Check.fund(x, 0, 5, "");
        x.days(358);
        x.days(1);
        Check.same("on the last day", x.coin(0), 0);
        x.days(1);
        Check.same("as it ends", x.coin(0), 5);
        x.days(1);
        Check.same("on the next", x.coin(0), 5);
        x.days(358);
        Check.same("on the last day of the next", x.coin(0), 5);
        x.days(2);
        Check.same("behind it", x.coin(0), 10);
        Check.spans(x, 48);
        Check.same("behind year 97", x.coin(0), 490);
        x.days(718);
        Check.same("on day 35999", x.coin(0), 495);
        x.days(1);
        Check.same("year 99 on day 36000", x.coin(0), 500);
        Check.same("no more days", x.days(1), -1);
        Check.same("year 100 never closes", x.coin(0), 500);
    }

    private static void twoYearsInOneCall() {
        Check.sentence("So many DAYS (1 to 720) go by; YEARS CLOSE");
        TrustDesk x = new TrustDesk();
        Check.fund(x, 0, 5, "end a pays 2 if 1=1;");
        x.days(359);
        x.days(720);
        Check.same("two", x.coin(0), 6);
        Check.same("year 0", x.entry(0, 0), 0);
        Check.same("year 1", x.entry(1, 0), 1);
        Check.same("no third", x.count(7), 2);
        x.days(1);
        Check.same("the third", x.entry(2, 0), 2);
    }

    private static void whatIsKnownOnThatDay() {
        Check.sentence("by what is known on that DAY");
        TrustDesk x = new TrustDesk();
        Check.fund(x, 1, 0, "end a pays poor if 1=1 part;");
        x.days(359);
        x.fact(6, 0, 50);
        x.fact(0, 0, 3);
        x.fact(6, 1, 20);
        x.fact(0, 1, 4);
        x.days(1);
        Check.same("what was told on the last day", x.coin(0), 47);
        x.fact(6, 0, 9999);
        x.fact(0, 0, 0);
        Check.same("what is told later of that year changes nothing", x.coin(0), 47);
        Check.same("nor what was paid", x.entry(0, 3), 3);
        x.days(360);
        Check.same("of the next year its own", x.coin(0), 47 + 20 - 4);
        x.days(360);
        Check.same("of the third that of the year ahead", x.coin(0), 63 + 20 - 4);
    }

    private static void theActInForceOnThatDay() {
        Check.sentence("and the ACT in force on it");
        TrustDesk x = new TrustDesk();
        Check.fund(x, 0, 100, "end a pays 1 if 1=2;");
        Check.act(x, 0, "gain 20;fail 50;");
        Check.act(x, 719, "gain 10;fail 2;");
        Check.act(x, 720, "gain 5;fail 40;");
        x.days(720);
        Check.same("years 0 and 1 in one call", x.coin(0), 100 + 10 + 100);
        Check.same("failed twice by day 719", x.endOf(0, 0, 0), 1);
        x.days(360);
        Check.same("year 2", x.coin(0), 210 + 10 + 100);
        Check.act(x, 1079, "gain 20;");
        Check.same("a closed year stays", x.coin(0), 320);
        x.days(360);
        Check.same("year 3 by the act from day 1079", x.coin(0), 320 + 64 + 100);
    }

    private static void joinedOnesDoNotClose() {
        Check.sentence("FUND by FUND (those that are not JOINED to another one)");
        TrustDesk x = Check.desk("gain 10;fail 1;", "mark 1;end a pays 1 if 1=1;end b pays 1 if 1=2;", "mark 1;");
        Check.same("joined", Check.carried(x, 1, 0, 1), 0);
        x.days(720);
        Check.same("no coin", x.coin(0), 0);
        Check.same("no failed years", x.endOf(0, 1, 1), 0);
        Check.same("not dead", x.endOf(0, 1, 2), -1);
        Check.same("one entry a year", x.count(7), 2);
        Check.same("of the other one", x.entry(0, 1), 1);
        Check.same("once more", x.entry(1, 1), 1);
        Check.same("where it died", x.endOf(1, 1, 2), 0);
    }

    private static void fundByFund() {
        Check.sentence("FUND by FUND");
        TrustDesk x = new TrustDesk();
        for (int i = 0; i < 3; i++) {
            Check.fund(x, 0, 50, "end a pays 1 if 1=1;end b pays 2 if 1=1;");
        }
        x.days(720);
        for (int k = 0; k < 12; k++) {
            Check.same("year of entry " + k, x.entry(k, 0), k / 6);
            Check.same("fund of entry " + k, x.entry(k, 1), k % 6 / 2);
            Check.same("end of entry " + k, x.entry(k, 2), k % 2);
        }
    }

    private static void gainRoundedDown() {
        Check.sentence("COIN has a gain of COIN times gain by 100, rounded down");
        int[] stocks = {99, 100, 101, 199, 200, 1};
        long[] gains = {0, 1, 1, 1, 2, 0};
        for (int i = 0; i < stocks.length; i++) {
            TrustDesk x = new TrustDesk();
            Check.act(x, 0, "gain 1;");
            Check.fund(x, 0, stocks[i], "");
            x.days(720);
            Check.same("coin of " + stocks[i], x.coin(0), 2 * stocks[i] + gains[i]);
        }
        TrustDesk y = new TrustDesk();
        Check.act(y, 0, "gain 20;");
        Check.fund(y, 0, 14, "");
        y.days(720);
        Check.same("a fifth", y.coin(0), 28 + 2);
        TrustDesk z = new TrustDesk();
        Check.act(z, 0, "gain 0;");
        Check.fund(z, 0, 99999, "");
        z.days(720);
        Check.same("no gain", z.coin(0), 199998);
    }

    private static void gainAheadOfIncome() {
        Check.sentence("COIN has a gain ...; then INCOME more; then each LIVING END");
        TrustDesk x = new TrustDesk();
        Check.act(x, 0, "gain 20;");
        Check.fund(x, 0, 100, "end a pays coin-90 if coin>99;");
        x.days(360);
        Check.same("no gain of the income, all of it for the end", x.entry(0, 3), 10);
        x.days(360);
        Check.same("gain and income for the end", x.entry(1, 3), 90 + 18 + 100 - 90);
        Check.same("what is left", x.coin(0), 90);
    }

    private static void oneEndBehindTheOther() {
        Check.sentence("each LIVING END, one behind the other: if it is DUE (COIN as it is then)");
        TrustDesk x = new TrustDesk();
        Check.fund(x, 0, 100, "end a pays 60 if coin=100;end b pays coin if coin=40;end c pays 1 if coin=0 part;"
                + "end d pays 1 if coin>0;");
        x.days(360);
        Check.same("first", x.entry(0, 3), 60);
        Check.same("second, by the coin that is left", x.entry(1, 3), 40);
        Check.same("two entries", x.count(7), 2);
        Check.same("the third is due", x.endOf(0, 2, 1), 0);
        Check.same("the fourth isn't", x.endOf(0, 3, 1), 1);
    }

    private static void asMuchCoinAsAsked() {
        Check.sentence("it is paid what it asks, if there is as much COIN");
        for (int asked = 9; asked <= 11; asked++) {
            TrustDesk x = new TrustDesk();
            Check.fund(x, 0, 10, "end a pays " + asked + " if 1=1;");
            x.days(360);
            Check.same("asked " + asked, x.coin(0), asked <= 10 ? 10 - asked : 10);
            Check.same("led back of " + asked, x.paid(0), asked <= 10 ? asked : 0);
        }
    }

    private static void partTakesAllCoin() {
        Check.sentence("else (with part) all COIN");
        for (int asked = 9; asked <= 11; asked++) {
            TrustDesk x = new TrustDesk();
            Check.fund(x, 0, 10, "end a pays " + asked + " if 1=1 part;");
            x.days(360);
            Check.same("asked " + asked, x.paid(0), Math.min(asked, 10));
            Check.same("left of " + asked, x.coin(0), 10 - Math.min(asked, 10));
        }
        TrustDesk y = new TrustDesk();
        Check.fund(y, 0, 0, "end a pays 1 if 1=1 part;");
        y.days(360);
        Check.same("all of nothing", y.paid(0), 0);
        Check.same("is no entry", y.count(7), 0);
    }

    private static void elseNothing() {
        Check.sentence("else nothing");
        TrustDesk x = new TrustDesk();
        Check.fund(x, 0, 10, "end a pays 11 if 1=1;end b pays 10 if 1=1;");
        x.days(360);
        Check.same("the first is paid nothing", x.entry(0, 2), 1);
        Check.same("the second all", x.entry(0, 3), 10);
        Check.same("one entry", x.count(7), 1);
    }

    private static void dueHasNoFailedYears() {
        Check.sentence("it is DUE: its FAILED YEARS are 0");
        TrustDesk x = new TrustDesk();
        Check.fund(x, 0, 0, "end a pays 5 if poor=1;");
        x.fact(0, 2, 1);
        x.fact(0, 3, 0);
        x.days(720);
        Check.same("two failed", x.endOf(0, 0, 1), 2);
        x.days(360);
        Check.same("due, though it is paid nothing", x.endOf(0, 0, 1), 0);
        x.days(720);
        Check.same("two again", x.endOf(0, 0, 1), 2);
        Check.same("living", x.endOf(0, 0, 0), 0);
        x.days(360);
        Check.same("three are too many", x.endOf(0, 0, 0), 1);
        Check.same("year 5", x.endOf(0, 0, 2), 5);
    }

    private static void failedYearsOneMore() {
        Check.sentence("it isn't: they are one more, and if they are fail or more then it is DEAD");
        int[] fails = {1, 2, 3, 50};
        for (int fail : fails) {
            TrustDesk x = new TrustDesk();
            Check.act(x, 0, "fail " + fail + ";");
            Check.fund(x, 0, 0, "end a pays 5 if 1=2;");
            for (int year = 0; year < fail; year++) {
                Check.same("living ahead of year " + year, x.endOf(0, 0, 0), 0);
                Check.same("so many failed", x.endOf(0, 0, 1), year);
                x.days(360);
            }
            Check.same("dead by " + fail, x.endOf(0, 0, 0), 1);
            Check.same("failed", x.endOf(0, 0, 1), fail);
            Check.same("in its year", x.endOf(0, 0, 2), fail - 1);
        }
    }

    private static void failOrMore() {
        Check.sentence("if they are fail or more then it is DEAD");
        TrustDesk x = new TrustDesk();
        Check.act(x, 0, "fail 50;");
        Check.act(x, 360 * 5 + 359, "fail 2;");
        Check.fund(x, 0, 0, "end a pays 5 if 1=2;");
        x.days(720);
        x.days(720);
        x.days(360);
        Check.same("five failed", x.endOf(0, 0, 1), 5);
        Check.same("living", x.endOf(0, 0, 0), 0);
        x.days(360);
        Check.same("six", x.endOf(0, 0, 1), 6);
        Check.same("more than fail", x.endOf(0, 0, 0), 1);
        Check.same("in year 5", x.endOf(0, 0, 2), 5);
    }

    private static void deadAndStruckOnesRest() {
        Check.sentence("then each LIVING END");
        TrustDesk x = Check.desk("fail 1;", "mark 1;end a pays 1 if poor=1;end b pays 1 if 1=1;");
        Check.same("struck", Check.carried(x, 3, 0, 1), 0);
        x.fact(0, 1, 1);
        x.days(718);
        Check.same("dead", x.endOf(0, 0, 0), 1);
        Check.same("due now", x.due(0, 0, 1, 720), 1);
        Check.same("but not paid", x.count(7), 0);
        Check.same("its failed years stay", x.endOf(0, 0, 1), 1);
        Check.same("its year stays", x.endOf(0, 0, 2), 0);
        Check.same("the struck one is struck", x.endOf(0, 1, 0), 2);
        Check.same("coin", x.coin(0), 200);
    }

    // ---- what is led back

    /** Funds 0, 1 and 2 with stocks of their own; 0 and 1 are joined to 2 and the parts of 2 are by their worths. */
    private static TrustDesk threeFounders(int stock0, int stock1, int stock2, String deed2) {
        TrustDesk x = new TrustDesk();
        Check.act(x, 0, "days 1;keep 0;");
        Check.fund(x, 0, stock0, "");
        Check.fund(x, 0, stock1, "");
        Check.fund(x, 0, stock2, deed2);
        for (int i = 0; i < 3; i++) {
            x.trustee(i, 0);
        }
        Check.same("joined", Check.carried(x, 1, 0, 2), 0);
        Check.same("joined too", Check.carried(x, 1, 1, 2), 0);
        return x;
    }

    private static void ledBackRoundedDown() {
        Check.sentence("to each FOUNDER paid times PART by 1000000, rounded down");
        TrustDesk x = threeFounders(10, 20, 10, "end a pays 7 if poor=0;end b pays 8 if poor=1;end c pays 0-1 if 1=1;");
        Check.same("a quarter", x.part(2, 0), 250000);
        Check.same("a half", x.part(2, 1), 500000);
        Check.same("a quarter too", x.part(2, 2), 250000);
        x.days(356);
        // of 7: 1, 3 and 1, and 2 left over
        Check.same("1 and 1", x.paid(0), 2);
        Check.same("3 and 1", x.paid(1), 4);
        Check.same("1", x.paid(2), 1);
        x.fact(0, 1, 1);
        x.days(360);
        Check.same("2 of 8", x.paid(0), 4);
        Check.same("4 of 8", x.paid(1), 8);
        Check.same("2 of 8 too", x.paid(2), 3);
    }

    private static void leftOverOneEach() {
        Check.sentence("what is left over one each to FOUNDERS that have a PART, the least numbers first");
        TrustDesk x = threeFounders(0, 10, 10, "end a pays 1 if 1=1;");
        Check.same("no part", x.part(2, 0), 0);
        Check.same("halves", x.part(2, 1), 500000);
        x.days(356);
        Check.same("nothing to one without a part", x.paid(0), 0);
        Check.same("the one to the least that has one", x.paid(1), 1);
        Check.same("nothing to the other", x.paid(2), 0);
        TrustDesk y = threeFounders(10, 20, 30, "end a pays 2 if 1=1;");
        // parts a sixth, a third, a half: of 2 that is 0, 0 and 1, and 1 left over
        y.days(356);
        Check.same("the least number", y.paid(0), 1);
        Check.same("not the next", y.paid(1), 0);
        Check.same("its half", y.paid(2), 1);
        TrustDesk z = new TrustDesk();
        Check.act(z, 0, "days 1;keep 0;");
        Check.fund(z, 0, 1, "");
        Check.fund(z, 100, 99999, "end a pays 1 if 1=1;");
        z.fact(6, 0, 9000);
        z.trustee(0, 0);
        z.trustee(1, 0);
        Check.same("joined", Check.carried(z, 1, 0, 1), 0);
        Check.same("the least part", z.part(1, 0), 1);
        z.days(358);
        Check.same("is a part", z.paid(0), 1);
        Check.same("so nothing for the other", z.paid(1), 0);
    }

    private static void allOfItIsLedBack() {
        Check.sentence("What is paid is led back");
        TrustDesk x = threeFounders(7, 11, 13, "end a pays poor if 1=1 part;");
        long all = 0;
        for (int year = 0; year < 40; year++) {
            x.fact(0, year, year);
            x.days(year == 0 ? 356 : 360);
        }
        for (int k = 0; k < x.count(7); k++) {
            all += x.entry(k, 3);
        }
        Check.same("of each year", x.count(7), 38 + 1);
        Check.same("to all founders", x.paid(0) + x.paid(1) + x.paid(2), all);
        Check.same("by 31 a year", all + x.coin(2), 40 * 31);
    }

    private static void sixHundredEntries() {
        Check.sentence("ENTRIES, at most 600 (later ones aren't told)");
        TrustDesk x = new TrustDesk();
        String six = "end a pays 1 if 1=1;end b pays 2 if 1=1;end c pays 3 if 1=1;"
                + "end d pays 4 if 1=1;end e pays 5 if 1=1;end f pays 6 if 1=1;";
        for (int i = 0; i < 11; i++) {
            Check.fund(x, 0, 100, six);
        }
        Check.spans(x, 4);
        Check.same("below", x.count(7), 528);
        x.days(360);
        Check.same("ninth year", x.count(7), 594);
        x.days(360);
        Check.same("at most", x.count(7), 600);
        Check.same("the last: its fund", x.entry(599, 1), 0);
        Check.same("its end", x.entry(599, 2), 5);
        Check.same("its year", x.entry(599, 0), 9);
        Check.same("paid", x.entry(599, 3), 6);
        Check.same("no later one", x.entry(600, 0), -1);
        Check.same("yet fund 1 paid", x.paid(1), 210);
        x.days(360);
        Check.same("no more", x.count(7), 600);
        Check.same("the last stays", x.entry(599, 0), 9);
    }

    private static void entriesNotNought() {
        Check.sentence("ENTRIES: ... paid (not 0)");
        TrustDesk x = new TrustDesk();
        Check.fund(x, 0, 1, "end a pays 0 if 1=1;end b pays 2 if 1=1;end c pays 1 if 1=1;end d pays 1 if 1=1 part;"
                + "end e pays 1 if 1=2;");
        x.days(360);
        Check.same("one alone", x.count(7), 1);
        Check.same("of end 2", x.entry(0, 2), 2);
        Check.same("of one coin", x.entry(0, 3), 1);
    }
}
