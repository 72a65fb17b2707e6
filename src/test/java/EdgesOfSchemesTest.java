/** The boundary cases of the document's section 3: near ends, trustees, schemes, objections, votes, settling, joins. */
public final class EdgesOfSchemesTest {
    private static final String NEAR = "end n pays 1 if 1=1;";

    public static void main(String[] args) {
        twelveNearEnds();
        oneEndClause();
        persons();
        asManyTrusteesAsTrustSays();

        fortySchemes();
        nearTakesTheFirstDeadEnd();
        nearIsWithItsText();
        nearMarksOfBoth();
        acresAreSold();
        endIsStruck();
        openMadeFailed();

        tenObjections();
        objectionsUpToTheDay();
        daysAsKnownThen();
        objectionsBeyondTheLastDay();
        takenBackWhileOpen();
        lastWordCounts();
        votesWhileOpen();

        settledBehindThatDay();
        fundJoinedAlready();
        otherJoinedAlready();
        bothAreOne();
        noDeadEnd();
        notSoManyAcres();
        noSuchEndOrStruck();
        moreThanTwelveEnds();
        barOfItsKind();
        barOfTheActAtHand();
        barByFactsOfTheYearAtHand();
        barByCounts();
        fewerThanKeepMarks();
        keepOfTheActAtHand();
        fewerYes();
        joinYesInBoth();
        anObjectionStands();
        firstOfTheseThatHolds();

        worthByCoinAndIncome();
        worthAtMost();
        worthAtMostToTheCoin();
        worthsOfNothing();
        oneWorthOfNothing();
        partsRoundedDown();
        leftOverToTheLeastThatHasSome();
        joinTakesAcresAndStock();
        joinTakesEndsAsTheyAre();
        joinedOneKeepsNothing();
        Check.done();
    }

    private static String ends(char from, int count) {
        StringBuilder text = new StringBuilder("mark 1;");
        for (int i = 0; i < count; i++) {
            text.append("end ").append((char) (from + i)).append(" pays 1 if 1=1;");
        }
        return text.toString();
    }

    // ---- near ends and trustees

    private static void twelveNearEnds() {
        Check.sentence("NEAR ENDS, at most 12, numbered as they come");
        TrustDesk x = new TrustDesk();
        for (int i = 0; i < 12; i++) {
            Check.same("near end " + i, Check.near(x, i, NEAR), i);
        }
        Check.same("a 13th", Check.near(x, 0, NEAR), -1);
        Check.same("with a fault", Check.near(x, 0, "?"), -1);
        Check.same("twelve", x.count(5), 12);
    }

    private static void oneEndClause() {
        Check.sentence("one end clause of a text (that is all of it, with its ; ) and MARKS");
        Check.goodNear(NEAR);
        Check.goodNear(" " + NEAR + "\n ");
        Check.faultyNear("end n pays 1 if 1=1", 1, 19);
        Check.faultyNear(NEAR + ";", 1, 20);
        Check.faultyNear(NEAR + "mark 1;", 1, 20);
        Check.faultyNear(NEAR + NEAR, 1, 20);
        Check.faultyNear("mark 1;", 1, 0);
        Check.faultyNear("trust 1 1;", 1, 0);
        Check.faultyNear("mark 1;" + NEAR, 1, 0);
        Check.faultyNear("", 1, 0);
        TrustDesk x = new TrustDesk();
        Check.type(x, NEAR);
        Check.same("marks above", x.near(256), -1);
        Check.same("marks below", x.near(-1), -1);
        Check.same("the most", x.near(255), 0);
        Check.same("the least", Check.near(x, 0, NEAR), 1);
        Check.fund(x, 0, 0, "mark 0 7;");
        Check.same("all marks", x.marks(0, 0, 0), 2);
        Check.same("none", x.marks(0, 1, 0), 0);
    }

    private static void persons() {
        Check.sentence("TRUSTEES of a FUND: persons 0 to 99");
        TrustDesk x = new TrustDesk();
        Check.fund(x, 5, 0, "mark 1;");
        Check.no("person -1", x.trustee(0, -1));
        Check.no("person 100", x.trustee(0, 100));
        Check.yes("person 0", x.trustee(0, 0));
        Check.yes("person 99", x.trustee(0, 99));
        Check.same("two", x.fundOf(0, 7), 2);
        x.propose(2, 0, 1);
        Check.no("no vote of -1", x.vote(0, -1, true));
        Check.no("no vote of 100", x.vote(0, 100, true));
        Check.yes("a vote of 0", x.vote(0, 0, true));
        Check.yes("a vote of 99", x.vote(0, 99, false));
        Check.no("no objection of -1", x.objects(0, -1));
        Check.no("no objection of 100", x.objects(0, 100));
        Check.yes("an objection of 0", x.objects(0, 0));
        Check.yes("an objection of 99", x.objects(0, 99));
        Check.no("none of -1 is taken back", x.withdraws(0, -1));
        Check.no("none of 100 is taken back", x.withdraws(0, 100));
        Check.yes("that of 0 is", x.withdraws(0, 0));
        Check.yes("that of 99 is", x.withdraws(0, 99));
    }

    private static void asManyTrusteesAsTrustSays() {
        Check.sentence("as many as its TRUST says at most");
        for (int most = 1; most <= 7; most++) {
            TrustDesk x = new TrustDesk();
            Check.fund(x, 0, 0, "trust " + most + " 1;");
            for (int person = 0; person < most; person++) {
                Check.yes("trustee " + person + " of " + most, x.trustee(0, person));
            }
            Check.no("one more than " + most, x.trustee(0, 50));
            Check.same("as many", x.fundOf(0, 7), most);
        }
        TrustDesk y = new TrustDesk();
        Check.fund(y, 0, 0, "");
        Check.fund(y, 0, 0, "");
        for (int person = 0; person < 7; person++) {
            Check.yes("seven without", y.trustee(0, person));
        }
        Check.no("no eighth", y.trustee(0, 7));
        Check.yes("of another fund", y.trustee(1, 7));
        Check.yes("one person of two funds", y.trustee(1, 0));
    }

    // ---- schemes of four kinds

    private static void fortySchemes() {
        Check.sentence("SCHEMES, at most 40, numbered as they come");
        TrustDesk x = new TrustDesk();
        Check.fund(x, 0, 0, "");
        for (int i = 0; i < 40; i++) {
            Check.same("scheme " + i, x.propose(2, 0, 1 + i), i);
        }
        Check.same("a 41st", x.propose(2, 0, 1), -1);
        Check.same("of another kind", x.propose(3, 0, 0), -1);
        Check.same("forty", x.count(6), 40);
        Check.same("the last", x.scheme(39, 2), 40);
        Check.same("no other", x.scheme(40, 2), -1);
        x.days(31);
        Check.same("settled ones count too", x.settle(0), 1);
        Check.same("no room by that", x.propose(2, 0, 1), -1);
    }

    private static void nearTakesTheFirstDeadEnd() {
        Check.sentence("NEAR (0): the first DEAD END of a FUND becomes a NEAR END");
        TrustDesk x = Check.desk("fail 1;", "mark 1;end a pays 0 if 1=1;end bb pays 0 if 1=2;end ccc pays 0 if 1=2;"
                + "end dddd pays 0 if 1=2;");
        Check.near(x, 2, "end nearends pays 0 if 1=1;");
        x.days(360);
        Check.same("three dead", x.fundOf(0, 5), 3);
        Check.same("the first dead one is struck", Check.carried(x, 3, 0, 1), 0);
        Check.same("made", Check.carried(x, 0, 0, 0), 0);
        int[] states = {0, 2, 0, 1};
        int[] letters = {1, 2, 8, 4};
        for (int end = 0; end < 4; end++) {
            Check.same("state of end " + end, x.endOf(0, end, 0), states[end]);
            Check.same("letters of end " + end, x.endOf(0, end, 3), letters[end]);
        }
        Check.same("made for the last", Check.carried(x, 0, 0, 0), 0);
        Check.same("it lives", x.endOf(0, 3, 0), 0);
        Check.same("no other", Check.carried(x, 0, 0, 0), 1);
    }

    private static void nearIsWithItsText() {
        Check.sentence("becomes a NEAR END (with its text, LIVING, FAILED YEARS 0)");
        TrustDesk x = Check.desk("fail 2;", "mark 1;end a pays 5 if 1=2;");
        Check.near(x, 2, "end nn pays 7 if poor=0 and 2=2 part;");
        x.days(720);
        Check.same("dead", x.endOf(0, 0, 0), 1);
        Check.same("two failed", x.endOf(0, 0, 1), 2);
        Check.same("in year 1", x.endOf(0, 0, 2), 1);
        Check.same("made", Check.carried(x, 0, 0, 0), 0);
        Check.same("living", x.endOf(0, 0, 0), 0);
        Check.same("none failed", x.endOf(0, 0, 1), 0);
        Check.same("of a living one no year", x.endOf(0, 0, 2), -1);
        Check.same("its sum", x.due(0, 0, 0, 0), 7);
        Check.same("its condition", x.why(0, 0, 0, 0), -1);
        Check.same("ends as many", x.fundOf(0, 3), 1);
        x.fact(0, 3, 1);
        x.days(718);
        Check.same("paid for year 2", x.paid(0), 7);
        Check.same("failed in year 3", x.endOf(0, 0, 1), 1);
        Check.same("but living", x.endOf(0, 0, 0), 0);
        x.days(360);
        Check.same("dead again", x.endOf(0, 0, 2), 4);
    }

    private static void nearMarksOfBoth() {
        Check.sentence("the FUND's MARKS are those that both have");
        TrustDesk x = Check.desk("fail 1;keep 0;", "mark 0 1 2 7;end a pays 5 if 1=2;end b pays 5 if 1=2;");
        Check.near(x, 128 + 4 + 8, NEAR);
        Check.near(x, 1, NEAR);
        x.days(360);
        Check.same("made", Check.carried(x, 0, 0, 0), 0);
        Check.same("two", x.fundOf(0, 2), 128 + 4);
        Check.same("made too", Check.carried(x, 0, 0, 1), 0);
        Check.same("none", x.fundOf(0, 2), 0);
        Check.same("the near end keeps its own", x.marks(0, 0, 1), 0);
    }

    private static void acresAreSold() {
        Check.sentence("SALE (2): so many ACRES are sold for ACRES times rent of the YEAR at hand times sell");
        int[] sells = {1, 20, 40};
        for (int sell : sells) {
            TrustDesk x = new TrustDesk();
            Check.act(x, 0, "days 1;keep 0;sell " + sell + ";");
            Check.fund(x, 999, 0, "");
            x.trustee(0, 0);
            x.fact(6, 0, 9999);
            Check.same("all but one", Check.carried(x, 2, 0, 998), 0);
            Check.same("coin by sell " + sell, x.coin(0), 998L * 9999 * sell);
            Check.same("one is left", x.fundOf(0, 0), 1);
            Check.same("that one", Check.carried(x, 2, 0, 1), 0);
            Check.same("coin of all", x.coin(0), 999L * 9999 * sell);
            Check.same("none is left", x.fundOf(0, 0), 0);
        }
        TrustDesk y = Check.desk("keep 0;", "");
        Check.same("without a rent", Check.carried(y, 2, 0, 5), 0);
        Check.same("for nothing", y.coin(0), 0);
        Check.same("sold", y.fundOf(0, 0), 5);
        TrustDesk z = Check.desk("keep 0;sell 2;", "");
        z.fact(6, 0, 3);
        z.fact(6, 1, 5);
        int scheme = z.propose(2, 0, 10);
        z.vote(scheme, 0, true);
        z.days(359);
        Check.same("in year 0", z.count(1), 0);
        z.days(1);
        Check.same("by the rent of year 1", z.settle(scheme), 0);
        Check.same("coin", z.coin(0), 130 + 10 * 5 * 2);
    }

    private static void endIsStruck() {
        Check.sentence("STRIKE (3): an END is STRUCK");
        TrustDesk x = Check.desk("", ends('a', 6));
        Check.same("the last", Check.carried(x, 3, 0, 5), 0);
        Check.same("the first", Check.carried(x, 3, 0, 0), 0);
        for (int end = 0; end < 6; end++) {
            Check.same("state of end " + end, x.endOf(0, end, 0), end == 0 || end == 5 ? 2 : 0);
        }
        Check.same("six are told", x.fundOf(0, 3), 6);
        Check.same("four live", x.fundOf(0, 4), 4);
        Check.same("none is dead", x.fundOf(0, 5), 0);
        x.days(360);
        Check.same("four are paid", x.count(7), 4);
        Check.same("none of the struck", x.entry(0, 2), 1);
    }

    private static void openMadeFailed() {
        Check.sentence("It is OPEN (0), MADE (1) or has FAILED (2)");
        TrustDesk x = Check.desk("", "mark 1;");
        x.propose(2, 0, 1);
        x.propose(2, 0, 1);
        x.vote(0, 0, true);
        Check.same("open", x.scheme(0, 5), 0);
        x.days(2);
        Check.same("open still", x.scheme(0, 5), 0);
        Check.same("made", x.settle(0), 0);
        Check.same("failed", x.settle(1), 4);
        Check.same("it is made", x.scheme(0, 5), 1);
        Check.same("by none", x.scheme(0, 6), 0);
        Check.same("it has failed", x.scheme(1, 5), 2);
        Check.same("by 4", x.scheme(1, 6), 4);
        Check.same("made ones", x.count(10), 1);
        Check.same("no settling of a made one", x.settle(0), -1);
        Check.same("nor of a failed one", x.settle(1), -1);
        Check.same("nine acres", x.fundOf(0, 0), 9);
    }

    // ---- objections and votes

    private static void tenObjections() {
        Check.sentence("OBJECTIONS: persons, at most 10 a SCHEME");
        TrustDesk x = new TrustDesk();
        Check.fund(x, 5, 0, "mark 1;");
        x.propose(2, 0, 1);
        x.propose(2, 0, 1);
        for (int person = 0; person < 10; person++) {
            Check.yes("person " + person, x.objects(0, person * 11));
        }
        Check.no("an eleventh", x.objects(0, 5));
        Check.no("one of the ten", x.objects(0, 99));
        Check.same("ten", x.scheme(0, 7), 10);
        Check.yes("of another scheme", x.objects(1, 5));
        Check.same("one of that", x.scheme(1, 7), 1);
        Check.yes("one is taken back", x.withdraws(0, 99));
        Check.same("nine", x.scheme(0, 7), 9);
        Check.yes("so there is room", x.objects(0, 5));
        Check.no("for one", x.objects(0, 6));
        Check.no("none of 99 stands", x.withdraws(0, 99));
    }

    private static void objectionsUpToTheDay() {
        Check.sentence("up to the DAY it was proposed on and days together");
        int[] days = {1, 30, 360};
        for (int span : days) {
            TrustDesk x = new TrustDesk();
            x.days(7);
            Check.act(x, 0, "days " + span + ";");
            Check.fund(x, 5, 0, "mark 1;");
            x.propose(2, 0, 1);
            Check.same("the last day", x.scheme(0, 4), 7 + span);
            Check.yes("on the day itself", x.objects(0, 1));
            x.days(span);
            Check.yes("on the last day", x.objects(0, 2));
            x.days(1);
            Check.no("behind it", x.objects(0, 3));
            Check.same("two stand", x.scheme(0, 7), 2);
        }
    }

    private static void daysAsKnownThen() {
        Check.sentence("days (of the ACT in force on that DAY, as it was known then)");
        TrustDesk x = new TrustDesk();
        Check.fund(x, 5, 0, "mark 1;");
        Check.act(x, 10, "days 5;");
        Check.act(x, 11, "days 6;");
        x.days(10);
        x.propose(2, 0, 1);
        x.days(1);
        Check.act(x, 10, "days 100;");
        Check.act(x, 11, "days 200;");
        Check.same("as it was known then", x.scheme(0, 4), 15);
        x.propose(2, 0, 1);
        Check.same("as it is known now", x.scheme(1, 4), 211);
        x.days(5);
        Check.no("too late", x.objects(0, 1));
        Check.yes("not too late", x.objects(1, 1));
        Check.same("settled", x.settle(0), 4);
        Check.same("too early", x.settle(1), -1);
    }

    private static void objectionsBeyondTheLastDay() {
        Check.sentence("up to the DAY it was proposed on and days together; DAYS go from 0 to 36000");
        TrustDesk x = new TrustDesk();
        Check.fund(x, 5, 0, "mark 1;");
        x.trustee(0, 0);
        Check.spans(x, 49);
        x.days(719);
        x.propose(2, 0, 1);
        x.vote(0, 0, true);
        Check.same("a sum of days", x.scheme(0, 4), 35999 + 30);
        x.days(1);
        Check.yes("on day 36000", x.objects(0, 1));
        Check.same("never settled", x.settle(0), -1);
        Check.same("open", x.scheme(0, 5), 0);
    }

    private static void takenBackWhileOpen() {
        Check.sentence("while it is OPEN; taken back at any time while it is");
        TrustDesk x = Check.desk("", "mark 1;");
        x.propose(2, 0, 1);
        x.propose(2, 0, 1);
        x.vote(0, 0, true);
        x.vote(1, 0, true);
        for (int person = 1; person < 4; person++) {
            x.objects(0, person);
            x.objects(1, person);
        }
        Check.yes("on its first day", x.withdraws(0, 1));
        x.days(1);
        Check.yes("on its last day", x.withdraws(0, 2));
        x.days(400);
        Check.yes("long behind it", x.withdraws(0, 3));
        Check.no("once", x.withdraws(0, 3));
        Check.no("one who never did", x.withdraws(0, 4));
        Check.same("made", x.settle(0), 0);
        Check.same("failed", x.settle(1), 5);
        Check.no("a made one", x.withdraws(0, 1));
        Check.no("a failed one", x.withdraws(1, 1));
        Check.same("three stood", x.scheme(1, 7), 3);
    }

    private static void lastWordCounts() {
        Check.sentence("VOTES: each TRUSTEE says yes or no, the last word counts");
        TrustDesk x = Check.desk("", "mark 1;");
        for (int i = 0; i < 4; i++) {
            x.propose(2, 0, 1);
        }
        Check.yes("yes", x.vote(0, 0, true));
        Check.yes("then no", x.vote(0, 0, false));
        Check.yes("no", x.vote(1, 0, false));
        Check.yes("then yes", x.vote(1, 0, true));
        for (int i = 0; i < 3; i++) {
            Check.yes("yes thrice", x.vote(2, 0, true));
        }
        for (int i = 0; i < 3; i++) {
            Check.yes("no thrice", x.vote(3, 0, false));
        }
        int[] yes = {0, 1, 1, 0};
        int[] settled = {4, 0, 0, 4};
        x.days(2);
        for (int i = 0; i < 4; i++) {
            Check.same("yes of " + i, x.scheme(i, 8), yes[i]);
            Check.same("no of " + i, x.scheme(i, 9), 1 - yes[i]);
            Check.same("settled " + i, x.settle(i), settled[i]);
        }
    }

    private static void votesWhileOpen() {
        Check.sentence("A TRUSTEE says yes or no to a SCHEME that is OPEN");
        TrustDesk x = Check.desk("", "mark 1;");
        x.propose(2, 0, 1);
        x.propose(2, 0, 1);
        x.days(500);
        Check.yes("long behind the last day", x.vote(0, 0, true));
        Check.same("made", x.settle(0), 0);
        Check.no("a made one", x.vote(0, 0, false));
        Check.same("failed", x.settle(1), 4);
        Check.no("a failed one", x.vote(1, 0, true));
        Check.same("its yes", x.scheme(0, 8), 1);
        Check.same("none", x.scheme(1, 8), 0);
    }

    // ---- settling

    private static void settledBehindThatDay() {
        Check.sentence("SETTLED it can be behind that DAY");
        TrustDesk x = Check.desk("", "mark 1;");
        Check.act(x, 0, "days 3;");
        x.propose(2, 0, 1);
        x.vote(0, 0, true);
        for (int day = 0; day <= 3; day++) {
            Check.same("on day " + day, x.settle(0), -1);
            Check.same("open on day " + day, x.scheme(0, 5), 0);
            x.days(1);
        }
        Check.same("on day 4", x.settle(0), 0);
    }

    private static void fundJoinedAlready() {
        Check.sentence("1 it cannot be (the FUND ... is JOINED already)");
        TrustDesk x = Check.desk("fail 1;", "mark 1;end a pays 0 if 1=2;end b pays 0 if 1=1;", "mark 1;", "mark 1;");
        Check.near(x, 2, NEAR);
        x.days(360);
        for (int kind = 0; kind < 4; kind++) {
            x.propose(kind, 0, kind == 1 ? 2 : kind == 0 ? 0 : 1);
            x.vote(kind, 0, true);
        }
        Check.same("joined", Check.carried(x, 1, 0, 1), 0);
        for (int kind = 0; kind < 4; kind++) {
            Check.same("kind " + kind, x.settle(kind), 1);
            Check.same("failed by 1", x.scheme(kind, 6), 1);
        }
    }

    private static void otherJoinedAlready() {
        Check.sentence("1 it cannot be (... or the other one of JOIN, is JOINED already)");
        TrustDesk x = Check.desk("", "mark 1;", "mark 1;", "mark 1;");
        int early = x.propose(1, 2, 0);
        x.vote(early, 0, true);
        Check.same("joined", Check.carried(x, 1, 0, 1), 0);
        Check.same("proposed ahead of it", x.settle(early), 1);
        Check.same("proposed behind it", Check.carried(x, 1, 2, 0), 1);
        Check.same("back to it", Check.carried(x, 1, 1, 0), 1);
        Check.same("to the one that took it", Check.carried(x, 1, 2, 1), 0);
    }

    private static void bothAreOne() {
        Check.sentence("1 it cannot be (... both are one)");
        TrustDesk x = Check.desk("", "mark 1;", "mark 1;");
        Check.same("itself", Check.carried(x, 1, 1, 1), 1);
        Check.same("not joined", x.fundOf(1, 6), -1);
        Check.same("another", Check.carried(x, 1, 1, 0), 0);
    }

    private static void noDeadEnd() {
        Check.sentence("1 it cannot be (... no DEAD END)");
        TrustDesk x = Check.desk("fail 1;", "mark 1;", "mark 1;end a pays 0 if 1=1;", "mark 1;end a pays 0 if 1=2;");
        Check.near(x, 2, NEAR);
        x.days(360);
        Check.same("no end", Check.carried(x, 0, 0, 0), 1);
        Check.same("a living one", Check.carried(x, 0, 1, 0), 1);
        Check.same("struck", Check.carried(x, 3, 1, 0), 0);
        Check.same("a struck one", Check.carried(x, 0, 1, 0), 1);
        Check.same("a dead one", Check.carried(x, 0, 2, 0), 0);
        Check.same("which lives now", Check.carried(x, 0, 2, 0), 1);
    }

    private static void notSoManyAcres() {
        Check.sentence("1 it cannot be (... it has not so many ACRES)");
        TrustDesk x = Check.desk("", "mark 1;");
        Check.same("one more", Check.carried(x, 2, 0, 11), 1);
        Check.same("the most", Check.carried(x, 2, 0, 999), 1);
        Check.same("none was sold", x.fundOf(0, 0), 10);
        Check.same("all", Check.carried(x, 2, 0, 10), 0);
        Check.same("none is left", x.fundOf(0, 0), 0);
        Check.same("one of none", Check.carried(x, 2, 0, 1), 1);
    }

    private static void noSuchEndOrStruck() {
        Check.sentence("1 it cannot be (... no such END, or it is STRUCK)");
        TrustDesk x = Check.desk("", ends('a', 2));
        Check.same("one behind the last", Check.carried(x, 3, 0, 2), 1);
        Check.same("far behind it", Check.carried(x, 3, 0, Integer.MAX_VALUE), 1);
        Check.same("the last", Check.carried(x, 3, 0, 1), 0);
        Check.same("struck already", Check.carried(x, 3, 0, 1), 1);
        Check.same("the first", Check.carried(x, 3, 0, 0), 0);
    }

    private static void moreThanTwelveEnds() {
        Check.sentence("1 it cannot be (... by JOIN there would be more than 12 ENDS that are not STRUCK)");
        TrustDesk x = Check.desk("", ends('a', 6), ends('a', 6), ends('a', 1));
        Check.same("twelve", Check.carried(x, 1, 0, 1), 0);
        Check.same("thirteen", Check.carried(x, 1, 2, 1), 1);
        Check.same("thirteen, the other way", Check.carried(x, 1, 1, 2), 1);
        Check.same("struck", Check.carried(x, 3, 1, 3), 0);
        Check.same("eleven and one", Check.carried(x, 1, 2, 1), 0);
        Check.same("thirteen with the struck one", x.fundOf(1, 3), 13);
        Check.same("twelve live", x.fundOf(1, 4), 12);
        TrustDesk y = Check.desk("fail 1;", ends('a', 6), ends('a', 6), "mark 1;end z pays 0 if 1=2;");
        y.days(360);
        Check.same("twelve of two", Check.carried(y, 1, 0, 1), 0);
        Check.same("a dead one is not struck", Check.carried(y, 1, 2, 1), 1);
    }

    private static void barOfItsKind() {
        Check.sentence("2 a bar of its KIND holds");
        String[] kinds = {"near", "join", "sale", "strike"};
        for (int barred = 0; barred < 4; barred++) {
            TrustDesk x = Check.desk("fail 1;bar " + kinds[barred] + " if 1=1;",
                    "mark 1;end a pays 0 if 1=2;end b pays 0 if 1=1;", "mark 1;");
            Check.near(x, 2, NEAR);
            x.days(360);
            Check.same("strike", Check.carried(x, 3, 0, 1), barred == 3 ? 2 : 0);
            Check.same("sale", Check.carried(x, 2, 0, 1), barred == 2 ? 2 : 0);
            Check.same("near", Check.carried(x, 0, 0, 0), barred == 0 ? 2 : 0);
            Check.same("join", Check.carried(x, 1, 0, 1), barred == 1 ? 2 : 0);
        }
        TrustDesk y = Check.desk("bar sale if 1=2;bar sale if 1=1;bar sale if 1=2;", "mark 1;");
        Check.same("one of several", Check.carried(y, 2, 0, 1), 2);
        TrustDesk z = Check.desk("bar sale if 1=2;".repeat(18) + "bar sale if 1=1;", "mark 1;");
        Check.same("the twentieth rule", Check.carried(z, 2, 0, 1), 2);
    }

    private static void barOfTheActAtHand() {
        Check.sentence("2 a bar ... of the ACT in force on the DAY at hand");
        TrustDesk x = Check.desk("", "mark 1;");
        Check.act(x, 2, "bar sale if 1=1;");
        Check.act(x, 4, "days 1;");
        Check.act(x, 5, "bar sale if 1=1;");
        for (int i = 0; i < 4; i++) {
            x.propose(2, 0, 1);
            x.vote(i, 0, true);
        }
        x.days(2);
        Check.same("on the day the bar comes", x.settle(0), 2);
        x.days(1);
        Check.same("on the day behind it", x.settle(1), 2);
        x.days(1);
        Check.same("on the day it goes", x.settle(2), 0);
        x.days(1);
        Check.same("on the day another comes", x.settle(3), 2);
    }

    private static void barByFactsOfTheYearAtHand() {
        Check.sentence("2 a bar holds by FACTS of the YEAR at hand as known now, income, coin");
        TrustDesk x = Check.desk("bar sale if poor=1 or income=101 or coin>150;", "mark 1;");
        for (int i = 0; i < 5; i++) {
            x.propose(2, 0, 1);
            x.vote(i, 0, true);
        }
        x.fact(0, 1, 1);
        x.days(2);
        Check.same("a fact of the next year", x.settle(0), 0);
        x.fact(0, 0, 1);
        Check.same("told today", x.settle(1), 2);
        x.fact(0, 0, 0);
        x.fact(6, 0, 1);
        Check.same("of nine acres no 101", x.settle(2), 0);
        x.days(358);
        Check.same("the fact of year 1", x.settle(3), 2);
        x.fact(0, 1, 0);
        x.fact(6, 1, 0);
        Check.same("coin of year 0", x.coin(0), 128);
        Check.same("neither fact, income nor coin", x.settle(4), 0);
        TrustDesk y = Check.desk("bar sale if income=101;", "mark 1;");
        y.fact(6, 0, 1);
        Check.same("ten acres", Check.carried(y, 2, 0, 9), 0);
        Check.same("one acre", Check.carried(y, 2, 0, 1), 2);
        TrustDesk z = Check.desk("bar sale if coin=100;", "mark 1;");
        Check.same("no coin", Check.carried(z, 2, 0, 1), 0);
        z.days(358);
        Check.same("coin", Check.carried(z, 2, 0, 1), 2);
    }

    private static void barByCounts() {
        Check.sentence("2 a bar holds by living, dead (how many ENDS), marks (how many) of the FUND");
        String deed = "mark 0 7;end a pays 0 if 1=1;end b pays 0 if 1=2;end c pays 0 if 1=1;end d pays 0 if 1=2;"
                + "end e pays 0 if 1=1;";
        String[] names = {"living", "dead", "marks"};
        int[] counts = {2, 2, 2};
        for (int i = 0; i < 3; i++) {
            for (int told = 1; told <= 3; told++) {
                TrustDesk x = Check.desk("fail 1;bar sale if " + names[i] + "=" + told + ";", deed);
                x.days(360);
                Check.same("one is struck", Check.carried(x, 3, 0, 4), 0);
                Check.same(names[i] + " " + told, Check.carried(x, 2, 0, 1), told == counts[i] ? 2 : 0);
            }
        }
        TrustDesk y = Check.desk("bar join if living=1;", "mark 1;", "mark 1;end a pays 0 if 1=1;");
        Check.same("of the fund, not of the other", Check.carried(y, 1, 0, 1), 0);
        TrustDesk z = Check.desk("bar join if living=1;", "mark 1;end a pays 0 if 1=1;", "mark 1;");
        Check.same("of the fund", Check.carried(z, 1, 0, 1), 2);
    }

    private static void fewerThanKeepMarks() {
        Check.sentence("3 fewer than keep MARKS would be left (NEAR, JOIN: those that both have)");
        for (int keep = 0; keep <= 4; keep++) {
            TrustDesk x = Check.desk("fail 1;keep " + keep + ";", "mark 0 1 2 3;end a pays 0 if 1=2;", "mark 2 3 4 5;");
            Check.near(x, 1 + 2 + 4 + 128, NEAR);
            x.days(360);
            Check.same("join with two in common, keep " + keep, Check.carried(x, 1, 1, 0), keep > 2 ? 3 : 0);
            TrustDesk y = Check.desk("fail 1;keep " + keep + ";", "mark 0 1 2 3;end a pays 0 if 1=2;");
            Check.near(y, 1 + 2 + 4 + 128, NEAR);
            y.days(360);
            Check.same("near with three in common, keep " + keep, Check.carried(y, 0, 0, 0), keep > 3 ? 3 : 0);
        }
        for (int keep = 1; keep <= 3; keep++) {
            TrustDesk x = Check.desk("keep " + keep + ";", "mark 0 7;end a pays 0 if 1=1;");
            Check.same("sale of a fund with two, keep " + keep, Check.carried(x, 2, 0, 1), keep > 2 ? 3 : 0);
            Check.same("strike in a fund with two, keep " + keep, Check.carried(x, 3, 0, 0), keep > 2 ? 3 : 0);
        }
        TrustDesk y = Check.desk("keep 8;", "mark 0 1 2 3 4 5 6 7;", "mark 0 1 2 3 4 5 6;", "mark 0 1 2 3 4 5 6 7;");
        Check.same("seven of eight", Check.carried(y, 1, 0, 1), 3);
        Check.same("eight of eight", Check.carried(y, 1, 0, 2), 0);
        TrustDesk z = Check.desk("keep 0;", "mark 1;", "mark 2;");
        Check.same("keep 0: none in common", Check.carried(z, 1, 0, 1), 0);
        Check.same("none is left", z.fundOf(1, 2), 0);
    }

    private static void keepOfTheActAtHand() {
        Check.sentence("3 fewer than keep MARKS (of the ACT in force on the DAY at hand)");
        TrustDesk x = Check.desk("keep 2;", "mark 1;");
        Check.act(x, 3, "keep 1;");
        Check.act(x, 4, "keep 2;");
        for (int i = 0; i < 3; i++) {
            x.propose(2, 0, 1);
            x.vote(i, 0, true);
        }
        for (int i = 0; i < 3; i++) {
            x.days(i == 0 ? 2 : 1);
            Check.same("on day " + (2 + i), x.settle(i), i == 1 ? 0 : 3);
        }
    }

    private static void fewerYes() {
        Check.sentence("4 fewer yes than TRUST's second number");
        for (int needed = 1; needed <= 7; needed++) {
            TrustDesk x = Check.desk("", "mark 1;trust 7 " + needed + ";");
            for (int person = 1; person < 7; person++) {
                x.trustee(0, person);
            }
            x.propose(2, 0, 1);
            x.propose(2, 0, 1);
            for (int person = 0; person < 7; person++) {
                x.vote(0, person, person < needed - 1);
                x.vote(1, person, person < needed);
            }
            x.days(2);
            Check.same("one fewer than " + needed, x.settle(0), 4);
            Check.same("just " + needed, x.settle(1), 0);
        }
        TrustDesk y = new TrustDesk();
        Check.fund(y, 5, 0, "mark 1;");
        y.propose(2, 0, 1);
        y.days(31);
        Check.same("a fund without trustees", y.settle(0), 4);
    }

    private static void joinYesInBoth() {
        Check.sentence("4 (of JOIN: in one of both; a person who is TRUSTEE of both counts in both)");
        // trustees of fund 0: 0, 1, 2; of fund 1: 0, 3, 4; each needs two
        int[][] yes = {{0, 1, 3}, {1, 2}, {3, 4}, {1, 2, 3}, {0, 3, 4}, {1, 2, 3, 4}, {0}, {0, 1}, {0, 3}};
        int[] settled = {0, 4, 4, 4, 4, 0, 4, 4, 4};
        for (int i = 0; i < yes.length; i++) {
            TrustDesk x = Check.desk("", "mark 1;trust 3 2;", "mark 1;trust 3 2;", "mark 1;");
            x.trustee(0, 1);
            x.trustee(0, 2);
            x.trustee(1, 3);
            x.trustee(1, 4);
            x.trustee(2, 5);
            x.propose(1, 0, 1);
            Check.no("a trustee of a third", x.vote(0, 5, true));
            for (int person : yes[i]) {
                Check.yes("person " + person, x.vote(0, person, true));
            }
            x.days(2);
            Check.same("said by " + yes[i].length, x.scheme(0, 8), yes[i].length);
            Check.same("row " + i, x.settle(0), settled[i]);
        }
        TrustDesk y = Check.desk("", "mark 1;", "mark 1;trust 1 1;", "mark 1;");
        y.trustee(0, 7);
        y.propose(1, 0, 1);
        y.vote(0, 7, true);
        y.days(2);
        Check.same("none of the other one", y.settle(0), 4);
    }

    private static void anObjectionStands() {
        Check.sentence("5 an OBJECTION stands. Else it is MADE");
        TrustDesk x = Check.desk("", "mark 1;");
        for (int i = 0; i < 3; i++) {
            x.propose(2, 0, 1);
            x.vote(i, 0, true);
        }
        x.objects(0, 1);
        x.objects(1, 1);
        x.objects(1, 2);
        x.withdraws(1, 1);
        x.objects(2, 3);
        x.withdraws(2, 3);
        x.days(2);
        Check.same("one", x.settle(0), 5);
        Check.same("one of two", x.settle(1), 5);
        Check.same("none of one", x.settle(2), 0);
    }

    private static void firstOfTheseThatHolds() {
        Check.sentence("it FAILS by the first of these that holds");
        for (int good = 0; good <= 5; good++) {
            TrustDesk x = Check.desk("keep 2;", good > 2 ? "mark 1 2;" : "mark 1;");
            x.propose(2, 0, good > 0 ? 10 : 11);
            x.vote(0, 0, good > 3);
            x.objects(0, 9);
            x.days(2);
            if (good > 4) {
                x.withdraws(0, 9);
            }
            if (good < 2) {
                Check.act(x, 2, "keep 2;bar sale if marks=1;");
            }
            Check.same("so many are not in the way: " + good, x.settle(0), good == 5 ? 0 : good + 1);
        }
    }

    // ---- what a join does

    private static void worthByCoinAndIncome() {
        Check.sentence("WORTH of each: COIN and twenty times INCOME of the YEAR at hand as known now");
        TrustDesk x = new TrustDesk();
        Check.act(x, 0, "days 1;keep 0;");
        Check.fund(x, 3, 1, "");
        Check.fund(x, 1, 5, "");
        x.trustee(0, 0);
        x.trustee(1, 0);
        x.fact(6, 0, 10);
        x.days(360);
        x.fact(6, 1, 2);
        x.propose(1, 0, 1);
        x.vote(0, 0, true);
        x.days(2);
        x.fact(6, 1, 4);
        x.fact(6, 2, 9999);
        Check.same("joined", x.settle(0), 0);
        long worth = 31 + 20 * (3 * 4 + 1);
        long other = 15 + 20 * (1 * 4 + 5);
        Check.same("part of the other one", x.part(1, 1), other * 1000000 / (worth + other));
        Check.same("part of the joined one, with what is left over", x.part(1, 0),
                1000000 - other * 1000000 / (worth + other));
    }

    private static void worthAtMost() {
        Check.sentence("WORTH ... 1000000000000 at most");
        TrustDesk x = new TrustDesk();
        Check.act(x, 0, "days 1;keep 0;gain 20;");
        Check.fund(x, 999, 99999, "");
        Check.fund(x, 999, 0, "");
        x.fact(6, 0, 9999);
        x.trustee(0, 0);
        x.trustee(1, 0);
        int year = 0;
        while ((x.coin(1) < 1000000000000L || x.coin(0) < 1000000000000L) && year < 98) {
            x.days(360);
            year++;
        }
        Check.yes("unlike coin", x.coin(0) > x.coin(1));
        Check.same("joined", Check.carried(x, 1, 0, 1), 0);
        Check.same("like parts", x.part(1, 0), 500000);
        Check.same("like parts too", x.part(1, 1), 500000);
        TrustDesk y = new TrustDesk();
        Check.act(y, 0, "days 1;keep 0;");
        Check.fund(y, 999, 99999, "");
        Check.fund(y, 999, 99999, "");
        y.fact(6, 0, 9999);
        y.trustee(0, 0);
        y.trustee(1, 0);
        Check.same("joined below it", Check.carried(y, 1, 0, 1), 0);
        Check.same("half", y.part(1, 0), 500000);
    }

    private static void worthAtMostToTheCoin() {
        Check.sentence("WORTH ... 1000000000000 at most");
        // of 250000000000 and 1000000000000 the parts are whole millionths: one coin more or less shows
        int[][] acres = {{240, 999}, {999, 240}};
        for (int poor = 0; poor < 2; poor++) {
            TrustDesk x = new TrustDesk();
            Check.act(x, 0, "days 1;keep 0;fail 50;gain 20;");
            for (int fund = 0; fund < 2; fund++) {
                Check.fund(x, acres[poor][fund], 0,
                        fund == poor ? "end a pays boys*9999*9999+maids*9999+poor if 1=1;" : "");
                x.trustee(fund, 0);
            }
            x.fact(6, 0, 9999);
            lead(x, poor, 250000000000L);
            Check.same("the poor one", x.coin(poor), 250000000000L);
            Check.yes("the rich one", x.coin(1 - poor) > 1000000000000L);
            Check.same("joined", Check.carried(x, 1, 1 - poor, poor), 0);
            Check.same("a fifth", x.part(poor, poor), 200000);
            Check.same("four fifths", x.part(poor, 1 - poor), 800000);
        }
    }

    /** Lets years close until a fund has just so much coin and no rent; its end pays by poor, maids and boys. */
    private static void lead(TrustDesk x, int fund, long coin) {
        int[] gains = {20, 5, 1};
        for (int gain : gains) {
            Check.act(x, x.count(0), "days 1;keep 0;fail 50;gain " + gain + ";");
            while (x.coin(fund) * (100 + gain) / 100 < coin || gain == 1 && x.coin(fund) < coin) {
                x.days(360);
            }
        }
        Check.act(x, x.count(0), "days 1;keep 0;fail 50;");
        x.fact(6, x.count(1), 0);
        while (x.coin(fund) > coin) {
            int pays = (int) Math.min(900000000, x.coin(fund) - coin);
            x.fact(2, x.count(1), pays / (9999 * 9999));
            x.fact(1, x.count(1), pays % (9999 * 9999) / 9999);
            x.fact(0, x.count(1), pays % 9999);
            x.days(360);
        }
    }

    private static void worthsOfNothing() {
        Check.sentence("(both 0: WORTHS count as 1)");
        TrustDesk x = new TrustDesk();
        Check.act(x, 0, "days 1;keep 0;");
        for (int i = 0; i < 4; i++) {
            Check.fund(x, 0, 0, "");
            x.trustee(i, 0);
        }
        Check.same("joined", Check.carried(x, 1, 3, 1), 0);
        Check.same("half", x.part(1, 1), 500000);
        Check.same("half too", x.part(1, 3), 500000);
        Check.same("joined too", Check.carried(x, 1, 0, 1), 0);
        int[] want = {500000, 250000, 0, 250000};
        for (int founder = 0; founder < 4; founder++) {
            Check.same("part of " + founder, x.part(1, founder), want[founder]);
        }
    }

    private static void oneWorthOfNothing() {
        Check.sentence("(both 0: WORTHS count as 1): one of both is no such case");
        TrustDesk x = new TrustDesk();
        Check.act(x, 0, "days 1;keep 0;");
        Check.fund(x, 0, 0, "");
        Check.fund(x, 0, 1, "");
        Check.fund(x, 0, 0, "");
        for (int i = 0; i < 3; i++) {
            x.trustee(i, 0);
        }
        Check.same("of nothing to something", Check.carried(x, 1, 0, 1), 0);
        Check.same("no part", x.part(1, 0), 0);
        Check.same("all", x.part(1, 1), 1000000);
        Check.same("of something to nothing", Check.carried(x, 1, 1, 2), 0);
        Check.same("all to it", x.part(2, 1), 1000000);
        Check.same("no part for its own", x.part(2, 2), 0);
        TrustDesk y = new TrustDesk();
        Check.act(y, 0, "days 1;keep 0;");
        Check.fund(y, 1, 0, "");
        Check.fund(y, 0, 0, "");
        y.trustee(0, 0);
        y.trustee(1, 0);
        y.fact(6, 0, 1);
        y.fact(6, 1, 0);
        y.days(360);
        Check.same("one coin", y.coin(0), 1);
        Check.same("joined to a fund of nothing", Check.carried(y, 1, 0, 1), 0);
        Check.same("all parts by one coin", y.part(1, 0), 1000000);
        Check.same("none of its own", y.part(1, 1), 0);
    }

    private static void partsRoundedDown() {
        Check.sentence("of each FOUNDER WORTH times PART of both together, by both WORTHS, rounded down");
        TrustDesk x = new TrustDesk();
        Check.act(x, 0, "days 1;keep 0;");
        Check.fund(x, 0, 1, "");
        Check.fund(x, 0, 2, "");
        Check.fund(x, 0, 4, "");
        for (int i = 0; i < 3; i++) {
            x.trustee(i, 0);
        }
        Check.same("joined", Check.carried(x, 1, 0, 1), 0);
        Check.same("a third and one", x.part(1, 0), 333334);
        Check.same("two thirds", x.part(1, 1), 666666);
        Check.same("joined too", Check.carried(x, 1, 1, 2), 0);
        // worths 60 and 80: 333334*60/140 = 142857.4, 666666*60/140 = 285714.0, 571428.5
        Check.same("founder 0, with one left over", x.part(2, 0), 142858);
        Check.same("founder 1", x.part(2, 1), 285714);
        Check.same("founder 2", x.part(2, 2), 571428);
        Check.same("the joined one's are told as they were", x.part(1, 0), 333334);
        Check.same("the second too", x.part(1, 1), 666666);
        Check.same("the third too", x.part(1, 2), 0);
    }

    private static void leftOverToTheLeastThatHasSome() {
        Check.sentence("what is left over goes to the least FOUNDER that has some of these then");
        TrustDesk x = new TrustDesk();
        Check.act(x, 0, "days 1;keep 0;");
        Check.fund(x, 0, 1, "");
        Check.fund(x, 0, 99999, "");
        Check.fund(x, 0, 99999, "");
        Check.fund(x, 0, 99999, "");
        x.fact(6, 0, 9999);
        for (int i = 0; i < 4; i++) {
            x.trustee(i, 0);
        }
        Check.same("a poor one", Check.carried(x, 1, 0, 1), 0);
        Check.same("ten millionths", x.part(1, 0), 10);
        Check.same("the rest", x.part(1, 1), 999990);
        Check.same("a rich one", Check.carried(x, 1, 1, 2), 0);
        // stocks 99999 (at most) and 99999: halves of 10 and 999990
        Check.same("five", x.part(2, 0), 5);
        Check.same("half", x.part(2, 1), 499995);
        Check.same("half too", x.part(2, 2), 500000);
        Check.same("once more", Check.carried(x, 1, 2, 3), 0);
        Check.same("half of five and one left over", x.part(3, 0), 2 + 1);
        Check.same("a quarter", x.part(3, 1), 249997);
        Check.same("a quarter too", x.part(3, 2), 250000);
        Check.same("half again", x.part(3, 3), 500000);
        TrustDesk y = new TrustDesk();
        Check.act(y, 0, "days 1;keep 0;gain 20;");
        Check.fund(y, 0, 1, "");
        Check.fund(y, 999, 99999, "");
        y.fact(6, 0, 9999);
        y.trustee(0, 0);
        y.trustee(1, 0);
        Check.spans(y, 10);
        Check.same("of next to nothing", Check.carried(y, 1, 0, 1), 0);
        Check.same("none of it", y.part(1, 0), 0);
        Check.same("what is left over goes to the one that has some", y.part(1, 1), 1000000);
        TrustDesk z = new TrustDesk();
        Check.act(z, 0, "days 1;keep 0;");
        Check.fund(z, 0, 1, "");
        Check.fund(z, 100, 0, "");
        z.fact(6, 0, 7000);
        z.trustee(0, 0);
        z.trustee(1, 0);
        // 20 and 14000000: 1.4 and 999998.5 millionths
        Check.same("of little", Check.carried(z, 1, 0, 1), 0);
        Check.same("one is some, and has the one left over", z.part(1, 0), 2);
        Check.same("the other one", z.part(1, 1), 999998);
    }

    private static void joinTakesAcresAndStock() {
        Check.sentence("It has COIN, ACRES (999 at most), STOCK (99999 at most) of both");
        int[] acres = {499, 500, 501};
        int[] stocks = {59998, 59999, 60000};
        for (int i = 0; i < 3; i++) {
            TrustDesk x = new TrustDesk();
            Check.act(x, 0, "days 1;keep 0;");
            Check.fund(x, 499, 40000, "");
            Check.fund(x, acres[i], stocks[i], "");
            x.trustee(0, 0);
            x.trustee(1, 0);
            x.days(360);
            Check.same("joined", Check.carried(x, 1, 0, 1), 0);
            Check.same("acres", x.fundOf(1, 0), Math.min(999, 499 + acres[i]));
            Check.same("stock", x.fundOf(1, 1), Math.min(99999, 40000 + stocks[i]));
            Check.same("coin", x.coin(1), 40000 + stocks[i]);
        }
    }

    private static void joinTakesEndsAsTheyAre() {
        Check.sentence("ENDS that are not STRUCK of the joined one behind its own (as they are), MARKS that both have");
        TrustDesk x = Check.desk("fail 2;", "mark 1 2 7;end a pays 0 if 1=1;end bb pays 0 if 1=2;"
                + "end ccc pays 0 if poor=0;end dddd pays 9 if 1=1;", "mark 2 7;end z pays 0 if 1=1;end y pays 0 if 1=1;");
        Check.same("struck", Check.carried(x, 3, 0, 0), 0);
        Check.same("its own struck one stays", Check.carried(x, 3, 1, 0), 0);
        x.fact(0, 1, 1);
        x.days(716);
        Check.same("joined", Check.carried(x, 1, 0, 1), 0);
        int[] states = {2, 0, 1, 0, 0};
        int[] failed = {0, 0, 2, 1, 0};
        int[] died = {-1, -1, 1, -1, -1};
        int[] letters = {1, 1, 2, 3, 4};
        Check.same("five", x.fundOf(1, 3), 5);
        for (int end = 0; end < 5; end++) {
            Check.same("state of " + end, x.endOf(1, end, 0), states[end]);
            Check.same("failed years of " + end, x.endOf(1, end, 1), failed[end]);
            Check.same("year of death of " + end, x.endOf(1, end, 2), died[end]);
            Check.same("letters of " + end, x.endOf(1, end, 3), letters[end]);
        }
        Check.same("marks", x.fundOf(1, 2), 4 + 128);
        x.days(358);
        Check.same("a failed year more kills it", x.endOf(1, 3, 0), 1);
        Check.same("the joined one's end is as it was", x.endOf(0, 2, 1), 1);
    }

    private static void joinedOneKeepsNothing() {
        Check.sentence("the joined one has no COIN, ACRES, STOCK, TRUSTEES any more, its ENDS are STRUCK;"
                + " its MARKS and PARTS are told as they were");
        TrustDesk x = Check.desk("", "mark 1 3;end a pays 0 if 1=1;end b pays 0 if 1=1;trust 2 1;", "mark 1 4;trust 1 1;");
        x.trustee(0, 5);
        x.days(360);
        int open = x.propose(1, 1, 0);
        int sale = x.propose(2, 0, 1);
        Check.same("joined", Check.carried(x, 1, 0, 1), 0);
        int[] want = {0, 0, 2 + 8, 2, 0, 0, 1, 0, 2, 1};
        for (int what = 0; what < 10; what++) {
            Check.same("what " + what, x.fundOf(0, what), want[what]);
        }
        Check.same("coin", x.coin(0), 0);
        Check.same("end", x.endOf(0, 0, 0), 2);
        Check.same("end too", x.endOf(0, 1, 0), 2);
        Check.same("part", x.part(0, 0), 1000000);
        Check.same("of the other none", x.part(0, 1), 0);
        Check.no("a trustee that was", x.vote(open, 5, true));
        Check.no("for a scheme of its own", x.vote(sale, 5, true));
        Check.no("the least person too", x.vote(sale, 0, true));
        Check.yes("a trustee of the other one", x.vote(open, 0, true));
        Check.no("no trustee more", x.trustee(0, 6));
        Check.same("the other one has its own trustees", x.fundOf(1, 7), 1);
        Check.no("it has as many as may be", x.trustee(1, 5));
        x.days(360);
        Check.same("it has no coin by a year", x.coin(0), 0);
    }
}
