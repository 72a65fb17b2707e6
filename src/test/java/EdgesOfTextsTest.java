/** The boundary cases of the document's first terms: days, facts, texts, faults and acts, a test for each sentence. */
public final class EdgesOfTextsTest {
    public static void main(String[] args) {
        days();
        yearOfADay();
        factNumbers();
        factsOfAYear();
        tellings();
        toldByThen();
        latestYearAhead();
        elseNought();

        textBytes();
        emptyTexts();
        clausesEndWithTheirSign();
        markNumbers();
        optionalPart();
        trustNumbers();
        rulesOfAnAct();
        barKinds();
        conditionOrder();
        signs();
        figures();
        namesInASum();
        namesOfEnds();
        fromTheLeftOn();
        sumsAbove();
        sumsBelow();
        sumsFarBeyond();
        blanks();
        wordsAndFiguresAsManyAsStandTogether();
        signsOneByOne();

        noTextGoesOn();
        wordAboveEightLetters();
        moreThanFourFigures();
        theEnd();
        numbersOfMark();
        numbersOfTrust();
        numbersOfRules();
        noNames();
        nameThereAlready();
        thirteenthClause();
        twentyFirstRule();
        seventhEnd();
        fifthBracket();
        firstAlongTheText();
        ofOnePlaceTheLeast();
        faultyDeedChangesNothing();
        faultyActChangesNothing();
        faultyNearEndChangesNothing();
        bracketsOfAFaultyText();
        lastToldHolds();
        withoutTheRule();

        twentyActs();
        fromAnyDay();
        inForceFromItsDay();
        latestDayHolds();
        ofOneDayTheLastTold();
        asNowKnown();
        noneInForce();
        Check.done();
    }

    // ---- days and facts

    private static void days() {
        Check.sentence("DAYS go from 0 to 36000 (the DAY at hand is 0 at first)");
        TrustDesk x = new TrustDesk();
        Check.same("the day at first", x.count(0), 0);
        Check.spans(x, 49);
        Check.same("to the last but one", x.days(719), 35999);
        Check.same("one above", x.days(2), -1);
        Check.same("the day stays", x.count(0), 35999);
        Check.same("to the last", x.days(1), 36000);
        Check.same("behind it", x.days(1), -1);
        Check.same("no day more", x.count(0), 36000);
        Check.yes("a fact of the last day", x.fact(0, 100, 5));
        Check.same("known on it", x.factOf(0, 100, 36000), 5);
        Check.same("not ahead of it", x.factOf(0, 100, 35999), 0);
    }

    private static void yearOfADay() {
        Check.sentence("YEAR of a DAY: by 360, rounded down (0 to 100)");
        TrustDesk x = new TrustDesk();
        Check.same("day 0", x.count(1), 0);
        x.days(359);
        Check.same("day 359", x.count(1), 0);
        x.days(1);
        Check.same("day 360", x.count(1), 1);
        x.days(359);
        Check.same("day 719", x.count(1), 1);
        x.days(1);
        Check.same("day 720", x.count(1), 2);
        Check.spans(x, 48);
        x.days(719);
        Check.same("day 35999", x.count(1), 99);
        x.days(1);
        Check.same("day 36000", x.count(1), 100);
    }

    private static void factNumbers() {
        Check.sentence("FACTS of a YEAR: ...: numbers 0 to 9999");
        TrustDesk x = new TrustDesk();
        Check.yes("the greatest", x.fact(0, 0, 9999));
        Check.no("above", x.fact(0, 0, 10000));
        Check.no("far above", x.fact(0, 0, Integer.MAX_VALUE));
        Check.same("it stays", x.factOf(0, 0, 0), 9999);
        Check.yes("the least", x.fact(0, 0, 0));
        Check.same("the least is told", x.factOf(0, 0, 0), 0);
        Check.yes("another", x.fact(0, 0, 1));
        Check.no("below", x.fact(0, 0, -1));
        Check.no("far below", x.fact(0, 0, Integer.MIN_VALUE));
        Check.same("it stays too", x.factOf(0, 0, 0), 1);
        Check.same("three were told", x.count(2), 3);
    }

    private static void factsOfAYear() {
        Check.sentence("FACTS of a YEAR: 0 poor, 1 maids, 2 boys, 3 sick, 4 bread, 5 coal, 6 rent, 7 lake");
        TrustDesk x = new TrustDesk();
        for (int which = 0; which < 8; which++) {
            Check.yes("fact " + which, x.fact(which, 0, 10 + which));
        }
        Check.no("fact 8", x.fact(8, 0, 1));
        Check.no("fact -1", x.fact(-1, 0, 1));
        Check.same("fact 8 of a year", x.factOf(8, 0, 0), -1);
        Check.same("fact -1 of a year", x.factOf(-1, 0, 0), -1);
        Check.fund(x, 0, 0, "end a pays poor if 1=1;end b pays maids if 1=1;end c pays boys if 1=1;"
                + "end d pays sick if 1=1;end e pays bread if 1=1;end f pays coal if 1=1;");
        Check.fund(x, 0, 0, "end g pays rent if 1=1;end h pays lake if 1=1;");
        for (int which = 0; which < 8; which++) {
            Check.same("name of fact " + which, x.due(which / 6, which % 6, 0, 0), 10 + which);
        }
    }

    private static void tellings() {
        Check.sentence("told on the DAY at hand for a YEAR, at most 300 tellings in all");
        TrustDesk x = new TrustDesk();
        for (int i = 0; i < 299; i++) {
            x.fact(i % 8, i % 101, i);
        }
        Check.no("a refused one", x.fact(8, 0, 0));
        Check.yes("the 300th, for the last year", x.fact(0, 100, 7));
        Check.no("the 301st", x.fact(0, 100, 8));
        Check.no("of another fact and year", x.fact(5, 0, 8));
        Check.same("three hundred", x.count(2), 300);
        Check.same("the 300th holds", x.factOf(0, 100, 0), 7);
        x.days(1);
        Check.no("on another day", x.fact(0, 0, 8));
    }

    private static void toldByThen() {
        Check.sentence("As known on a DAY a FACT of a YEAR is what was told last of it by then");
        TrustDesk x = new TrustDesk();
        x.days(5);
        x.fact(3, 2, 30);
        x.days(4);
        x.fact(3, 2, 31);
        x.fact(3, 2, 32);
        x.fact(4, 2, 99);
        Check.same("the day ahead of the telling", x.factOf(3, 2, 4), 0);
        Check.same("the day of the telling", x.factOf(3, 2, 5), 30);
        Check.same("the day ahead of the next", x.factOf(3, 2, 8), 30);
        Check.same("the last of the day", x.factOf(3, 2, 9), 32);
    }

    private static void latestYearAhead() {
        Check.sentence("else that of the latest YEAR ahead of which something was told by then");
        TrustDesk x = new TrustDesk();
        x.fact(1, 5, 50);
        x.fact(1, 3, 30);
        x.days(1);
        x.fact(1, 4, 40);
        x.fact(1, 8, 0);
        Check.same("of a year behind none", x.factOf(1, 2, 1), 0);
        Check.same("year 4 by day 0: that of year 3", x.factOf(1, 4, 0), 30);
        Check.same("year 4 by day 1: its own", x.factOf(1, 4, 1), 40);
        Check.same("year 6: that of year 5, though year 4 was told last", x.factOf(1, 6, 1), 50);
        Check.same("year 7", x.factOf(1, 7, 1), 50);
        Check.same("year 9 by day 0", x.factOf(1, 9, 0), 50);
        Check.same("year 9: the 0 of year 8", x.factOf(1, 9, 1), 0);
        Check.same("year 100", x.factOf(1, 100, 0), 50);
        Check.same("another fact", x.factOf(2, 100, 1), 0);
    }

    private static void elseNought() {
        Check.sentence("else 0");
        TrustDesk x = new TrustDesk();
        x.fact(0, 1, 77);
        Check.same("the year ahead of the only one", x.factOf(0, 0, 0), 0);
        Check.same("a fact never told", x.factOf(7, 100, 0), 0);
    }

    // ---- the language

    private static void textBytes() {
        Check.sentence("TEXTS have at most 400 bytes");
        TrustDesk x = new TrustDesk();
        Check.same("400 bytes", Check.fund(x, 0, 0, "mark 1;" + " ".repeat(386) + "mark 2;"), 0);
        Check.same("the last seven were read", x.fundOf(0, 2), 6);
        Check.same("400 signs", Check.fund(x, 0, 0, ";".repeat(400)), -2);
        Check.same("the first is at fault", x.place(), 0);
        Check.same("a fault at its end", Check.fund(x, 0, 0, "mark 1" + " ".repeat(394)), -2);
        Check.same("at 400", x.place(), 400);
        Check.same("a fault at its last byte", Check.fund(x, 0, 0, "mark 1;" + " ".repeat(392) + "?"), -2);
        Check.same("at 399", x.place(), 399);
        Check.same("names to the last byte", Check.act(x, 0, "bar sale if " + "1=1 and ".repeat(48) + "1=1;"), 1);
        Check.same("a word of 400 letters", Check.act(x, 0, "a".repeat(400)), -2);
        Check.same("figures, 400 of them", Check.act(x, 0, "1".repeat(400)), -2);
    }

    private static void emptyTexts() {
        Check.sentence("DEED: { CLAUSE ; }; ACT: { RULE ; }");
        Check.goodDeed("");
        Check.goodDeed(" \n ");
        Check.goodAct("", 0);
        Check.goodAct("\n\n", 0);
        Check.goodDeed("mark 1;");
        Check.goodDeed("mark 1;mark 1;");
        Check.goodAct("keep 1;", 1);
        Check.goodAct("keep 1;keep 1;", 2);
    }

    private static void clausesEndWithTheirSign() {
        Check.sentence("{ CLAUSE ; }, { RULE ; }: each has its ;");
        Check.faultyDeed("mark 1", 1, 6);
        Check.faultyDeed("mark 1 mark 2;", 1, 7);
        Check.faultyDeed("trust 1 1", 1, 9);
        Check.faultyDeed("trust 1 1 1;", 1, 10);
        Check.faultyDeed("end a pays 1 if 1=1", 1, 19);
        Check.faultyDeed("end a pays 1 if 1=1 part", 1, 24);
        Check.faultyDeed("mark 1;;", 1, 7);
        Check.faultyDeed(";mark 1;", 1, 0);
        Check.faultyAct("keep 1", 1, 6);
        Check.faultyAct("keep 1 keep 1;", 1, 7);
        Check.faultyAct("bar near if 1=1", 1, 15);
        Check.faultyAct("keep 1;;", 1, 7);
    }

    private static void markNumbers() {
        Check.sentence("mark N { N }");
        Check.faultyDeed("mark;", 1, 4);
        TrustDesk x = new TrustDesk();
        Check.same("one", Check.fund(x, 0, 0, "mark 3;"), 0);
        Check.same("its mark", x.fundOf(0, 2), 8);
        Check.same("all", Check.fund(x, 0, 0, "mark 0 1 2 3 4 5 6 7;"), 1);
        Check.same("all marks", x.fundOf(1, 2), 255);
        Check.same("the least behind another", Check.fund(x, 0, 0, "mark 1 0;"), 2);
        Check.same("both marks", x.fundOf(2, 2), 3);
        Check.same("one again and again", Check.fund(x, 0, 0, "mark " + "5 ".repeat(190) + ";"), 3);
        Check.same("that one", x.fundOf(3, 2), 32);
        Check.faultyDeed("mark 1,2;", 1, 6);
    }

    private static void optionalPart() {
        Check.sentence("end NAME pays SUM if COND [ part ]");
        Check.goodDeed("end a pays 1 if 1=1;");
        Check.goodDeed("end a pays 1 if 1=1 part;");
        Check.faultyDeed("end a pays 1 if 1=1 part part;", 1, 25);
        Check.faultyDeed("end a pays 1 part if 1=1;", 1, 13);
        Check.faultyDeed("end a pays 1 part;", 1, 13);
        Check.faultyDeed("end a pays 1;", 1, 12);
        Check.faultyDeed("end a if 1=1;", 1, 6);
        Check.faultyDeed("end a;", 1, 5);
    }

    private static void trustNumbers() {
        Check.sentence("trust N N");
        Check.goodDeed("trust 3 2;");
        Check.faultyDeed("trust;", 1, 5);
        Check.faultyDeed("trust 3;", 1, 7);
        Check.faultyDeed("trust 3 2 1;", 1, 10);
        Check.faultyDeed("trust 3 x;", 1, 8);
    }

    private static void rulesOfAnAct() {
        Check.sentence("RULE: fail N | keep N | days N | late N | gain N | sell N | bar KIND if COND");
        Check.goodAct("fail 1;keep 1;days 1;late 1;gain 1;sell 1;bar near if 1=1;", 7);
        Check.faultyAct("fail;", 1, 4);
        Check.faultyAct("fail 1 1;", 1, 7);
        Check.faultyAct("bar;", 1, 3);
        Check.faultyAct("bar near;", 1, 8);
        Check.faultyAct("bar near if;", 1, 11);
        Check.faultyAct("bar near if 1=1 part;", 1, 16);
        Check.faultyAct("near if 1=1;", 1, 0);
        Check.faultyAct("mark 1;", 1, 0);
        Check.faultyAct("end a pays 1 if 1=1;", 1, 0);
        Check.faultyAct("poor 1;", 1, 0);
        Check.faultyAct("marks 1;", 1, 0);
        Check.faultyDeed("keep 1;", 1, 0);
        Check.faultyDeed("bar near if 1=1;", 1, 0);
        Check.faultyDeed("poor;", 1, 0);
    }

    private static void barKinds() {
        Check.sentence("KIND: near, join, sale, strike");
        String[] kinds = {"near", "join", "sale", "strike"};
        for (String kind : kinds) {
            Check.goodAct("bar " + kind + " if 1=1;", 1);
        }
        Check.faultyAct("bar sell if 1=1;", 1, 4);
        Check.faultyAct("bar bar if 1=1;", 1, 4);
        Check.faultyAct("bar nearest if 1=1;", 1, 4);
        Check.faultyAct("bar nea if 1=1;", 1, 4);
        Check.faultyAct("bar 0 if 1=1;", 1, 4);
        Check.faultyAct("bar near join if 1=1;", 1, 9);
    }

    private static void conditionOrder() {
        Check.sentence("COND: BOTH { or BOTH }. BOTH: PART { and PART }. PART: not PART; [ COND ]; SUM SIGN SUM");
        Check.holds("1=1 or 1=1 and 1=2", true);
        Check.holds("[1=1 or 1=1] and 1=2", false);
        Check.holds("1=2 and 1=1 or 1=1", true);
        Check.holds("1=2 and [1=1 or 1=1]", false);
        Check.holds("not 1=2 and 1=2", false);
        Check.holds("not [1=2 and 1=2]", true);
        Check.holds("not 1=1 or 1=1", true);
        Check.holds("not not not not 1=1", true);
        Check.holds("not not not 1=1", false);
        Check.holds("1=2 or 1=2 or 1=1", true);
        Check.holds("1=1 and 1=1 and 1=2", false);
        Check.holds("[[[[1=1]]]]", true);
        Check.holds("not ".repeat(90) + "1=1", true);
        Check.holds("not ".repeat(89) + "1=1", false);
        Check.faultyDeed("end a pays 1 if 1;", 1, 17);
        Check.faultyDeed("end a pays 1 if 1=;", 1, 18);
        Check.faultyDeed("end a pays 1 if =1;", 1, 16);
        Check.faultyDeed("end a pays 1 if 1=1=1;", 1, 19);
        Check.faultyDeed("end a pays 1 if 1=1 or;", 1, 22);
        Check.faultyDeed("end a pays 1 if 1=1 and;", 1, 23);
        Check.faultyDeed("end a pays 1 if not;", 1, 19);
        Check.faultyDeed("end a pays 1 if [];", 1, 17);
        Check.faultyDeed("end a pays 1 if [1=1;", 1, 20);
        Check.faultyDeed("end a pays 1 if [1]=1;", 1, 18);
        Check.faultyDeed("end a pays 1 if [1=1]];", 1, 21);
        Check.faultyDeed("end a pays 1 if (1=1);", 1, 18);
        Check.faultyDeed("end a pays 1 if 1=1 not 1=1;", 1, 20);
        Check.faultyDeed("end a pays 1 if or 1=1;", 3, 16);
    }

    private static void signs() {
        Check.sentence("SIGN being < or > or =");
        Check.holds("4<5", true);
        Check.holds("5<5", false);
        Check.holds("6<5", false);
        Check.holds("4>5", false);
        Check.holds("5>5", false);
        Check.holds("6>5", true);
        Check.holds("4=5", false);
        Check.holds("5=5", true);
        Check.holds("6=5", false);
        Check.holds("0-1<0", true);
        Check.holds("0-1>0-2", true);
        Check.faultyDeed("end a pays 1 if 1!1;", 1, 17);
        Check.faultyDeed("end a pays 1 if 1+1;", 1, 19);
    }

    private static void figures() {
        Check.sentence("N: 1 to 4 figures");
        Check.asks("0", 0);
        Check.asks("7", 7);
        Check.asks("9999", 9999);
        Check.asks("0000", 0);
        Check.asks("0010", 10);
        Check.faultyDeed("end a pays 10000 if 1=1;", 1, 11);
        Check.faultyDeed("end a pays 00001 if 1=1;", 1, 11);
        Check.faultyDeed("mark 00001;", 1, 5);
        Check.goodDeed("mark 0001;trust 0003 0002;");
        Check.goodAct("keep 0008;", 1);
        Check.faultyAct("keep 00008;", 1, 5);
    }

    private static void namesInASum() {
        Check.sentence("NAMES in a SUM are those of the eight FACTS, income and coin; in an ACT living, dead, marks, too");
        String[] everywhere = {"poor", "maids", "boys", "sick", "bread", "coal", "rent", "lake", "income", "coin"};
        for (String name : everywhere) {
            Check.goodDeed("end a pays " + name + " if " + name + "=" + name + ";");
            Check.goodNear("end a pays " + name + " if " + name + "=" + name + ";");
            Check.goodAct("bar sale if 1=" + name + ";", 1);
        }
        String[] inActs = {"living", "dead", "marks"};
        for (String name : inActs) {
            Check.goodAct("bar sale if " + name + "=" + name + ";", 1);
            Check.faultyDeed("end a pays " + name + " if 1=1;", 3, 11);
            Check.faultyDeed("end a pays 1 if " + name + "=1;", 3, 16);
            Check.faultyNear("end a pays 1 if 1=" + name + ";", 3, 18);
        }
        String[] nowhere = {"acres", "stock", "fail", "keep", "near", "bar", "mark", "trust", "end", "pays", "if",
            "part", "and", "or", "poo", "poorr", "coins"};
        for (String word : nowhere) {
            Check.faultyDeed("end a pays 1*" + word + " if 1=1;", 3, 13);
            Check.faultyAct("bar sale if 1=" + word + ";", 3, 14);
        }
        Check.faultyAct("bar sale if 1=not 1=1;", 3, 14);
    }

    private static void namesOfEnds() {
        Check.sentence("NAME of an end: 1 to 8 small letters, any WORD");
        TrustDesk x = new TrustDesk();
        Check.same("words of all sorts", Check.fund(x, 0, 0, "end z pays 1 if 1=1;end abcdefgh pays 1 if 1=1;"
                + "end end pays 1 if 1=1;end pays pays 1 if 1=1;end if pays 1 if 1=1;end poor pays 1 if 1=1;"), 0);
        int[] letters = {1, 8, 3, 4, 2, 4};
        for (int end = 0; end < 6; end++) {
            Check.same("letters of end " + end, x.endOf(0, end, 3), letters[end]);
        }
        Check.faultyDeed("end abcdefghi pays 1 if 1=1;", 1, 4);
        Check.faultyDeed("end pays 1 if 1=1;", 1, 9);
        Check.faultyDeed("end 1 pays 1 if 1=1;", 1, 4);
        Check.faultyDeed("end A pays 1 if 1=1;", 1, 4);
        Check.faultyDeed("end a1 pays 1 if 1=1;", 1, 5);
    }

    // ---- sums

    private static void fromTheLeftOn() {
        Check.sentence("All from the left on");
        Check.asks("10-3-2", 5);
        Check.asks("10-3+2", 9);
        Check.asks("2+3*4", 14);
        Check.asks("2*3+4", 10);
        Check.asks("10-(3-2)", 9);
        Check.asks("(2+3)*4", 20);
        // bounded at each step from the left: the other way round nothing would be cut off
        Check.asks("1000*1000*1000+9999-9999", 999990001);
        Check.asks("9999*9999*9999*0", 0);
        Check.asks("1000*1000*1000*2-1000*1000*999", 1000000);
    }

    private static void sumsAbove() {
        Check.sentence("each sum, difference, product above 1000000000 is that");
        Check.asks("1000*1000*1000", 1000000000);
        Check.asks("1000*1000*1000-1", 999999999);
        Check.asks("1000*1000*1000+1", 1000000000);
        Check.asks("1000*1000*1000-1+2", 1000000000);
        Check.asks("1000*1000*1000+1-1", 999999999);
        Check.asks("1000*1000*1000-(0-1)", 1000000000);
        Check.asks("1000*1000*1000-(0-1)-1", 999999999);
        Check.asks("1000*1000*1001", 1000000000);
        Check.asks("1000*1000*1001-1", 999999999);
        Check.asks("(0-1000)*1000*(0-1001)-1", 999999999);
        Check.holds("1000*1000*1000+1=1000*1000*1000", true);
        Check.holds("1000*1000*1000-1<1000*1000*1000", true);
    }

    private static void sumsBelow() {
        Check.sentence("below -1000000000 likewise");
        Check.asks("0-1000*1000*1000+1000*1000*1000", 0);
        Check.asks("0-1000*1000*1000-1+1000*1000*1000", 0);
        Check.asks("0-1000*1000*1000+(0-1)+1000*1000*1000", 0);
        Check.asks("0-1000*1000*1000+1+1000*1000*1000", 1);
        Check.asks("(0-1000)*1000*1001+1000*1000*1000", 0);
        Check.asks("(0-1000)*1000*1000+1000*1000*1000", 0);
        Check.asks("1000*(0-1000)*999+1000*1000*1000", 1000000);
        Check.holds("0-1000*1000*1000-5=0-1000*1000*1000", true);
        Check.holds("0-1000*1000*1000+1>0-1000*1000*1000", true);
    }

    private static void sumsFarBeyond() {
        Check.sentence("each sum, difference, product above 1000000000 is that: without a wrap-around");
        Check.asks("1000*1000*1000*(1000*1000*1000)", 1000000000);
        Check.asks("9999*9999*9999*9999*9999*9999", 1000000000);
        Check.asks("(0-9999)*9999*9999*(9999*9999*9999)+1000*1000*1000", 0);
        Check.asks("(0-9999*9999*9999)*(0-9999*9999*9999)", 1000000000);
        Check.asks("1000*1000*1000+1000*1000*1000+1000*1000*1000", 1000000000);
        Check.asks("0-1000*1000*1000-1000*1000*1000-1000*1000*1000+1000*1000*1000", 0);
        Check.asks("4295*1000*1000", 1000000000);
    }

    // ---- tokens

    private static void blanks() {
        Check.sentence("TOKENS, blanks (32, 10) between where one likes");
        Check.goodDeed("  mark\n1  2\n;\n\n end a pays 1 * ( 2 ) if [ 1 = 1 ] part ; ");
        Check.goodDeed("mark1;end a pays1*(2)if[1=1]part;");
        Check.goodDeed("mark1 2;trust3 2;end a pays poor*2if not[1=1]and 1=1or 1<2;");
        Check.faultyDeed("mark\t1;", 1, 4);
        Check.faultyDeed("mark\r1;", 1, 4);
        Check.faultyDeed("\tmark 1;", 1, 0);
        Check.faultyDeed("mark 1;\t", 1, 7);
        Check.faultyDeed("mark" + (char) 160 + "1;", 1, 4);
        Check.faultyDeed("mark" + (char) 0 + "1;", 1, 4);
        Check.faultyDeed("mark" + (char) 9 + "1;", 1, 4);
        Check.faultyDeed("mark" + (char) 11 + "1;", 1, 4);
        Check.faultyDeed("mark" + (char) 31 + "1;", 1, 4);
        Check.faultyDeed("mark" + (char) 33 + "1;", 1, 4);
        Check.faultyDeed("mark 1;" + (char) 0, 1, 7);
    }

    private static void wordsAndFiguresAsManyAsStandTogether() {
        Check.sentence("WORDS (small letters, as many as stand together), figures likewise");
        Check.faultyDeed("markmark 1;", 1, 0);
        Check.faultyDeed("endapays 1 if 1=1;", 1, 0);
        Check.faultyDeed("mar k 1;", 1, 0);
        Check.faultyDeed("mark 1 1111 11;", 2, 7);
        Check.faultyDeed("mark 11;", 2, 5);
        Check.goodDeed("mark 1 1;");
        Check.faultyAct("keep1keep1;", 1, 5);
        Check.faultyDeed("Mark 1;", 1, 0);
        Check.faultyDeed("mArk 1;", 1, 0);
        // the neighbours of small letters and figures are signs of their own
        Check.faultyDeed("mark" + (char) ('a' - 1) + "1;", 1, 4);
        Check.faultyDeed("mark" + (char) ('z' + 1) + "1;", 1, 4);
        Check.faultyDeed("mark 1" + (char) ('0' - 1) + ";", 1, 6);
        Check.faultyDeed("mark 1" + (char) ('9' + 1) + ";", 1, 6);
        Check.faultyDeed("mark" + (char) ('a' + 128) + "1;", 1, 4);
        Check.faultyDeed("mark 1" + (char) ('1' + 128) + ";", 1, 6);
        TrustDesk x = new TrustDesk();
        Check.same("from a to z, 0 to 9", Check.fund(x, 0, 0, "end az pays 1029 if 1=1;end z pays 9 if 0=0;"), 0);
        Check.same("all its figures", x.due(0, 0, 0, 0), 1029);
    }

    private static void signsOneByOne() {
        Check.sentence("all other signs one by one");
        Check.faultyDeed("mark 1;;", 1, 7);
        Check.faultyDeed("end a pays 1 if 1<=1;", 1, 18);
        Check.faultyDeed("end a pays 1 if 1==1;", 1, 18);
        Check.faultyDeed("end a pays 1++1 if 1=1;", 1, 13);
        Check.faultyDeed("end a pays 1**1 if 1=1;", 1, 13);
        Check.faultyDeed("end a pays -1 if 1=1;", 1, 11);
        Check.goodDeed("end a pays ((1)) if [[1=1]];mark 1;");
    }

    // ---- faults

    private static void noTextGoesOn() {
        Check.sentence("FAULTS: 1 a byte or TOKEN with which no text goes on");
        Check.faultyDeed("?", 1, 0);
        Check.faultyDeed("  ?", 1, 2);
        Check.faultyDeed("1", 1, 0);
        Check.faultyDeed("mark ;", 1, 5);
        Check.faultyDeed("mark 1 poor;", 1, 7);
        Check.faultyDeed("mark poor;", 1, 5);
        Check.faultyDeed("trust poor 1;", 1, 6);
        Check.faultyDeed("end a pays ; if 1=1;", 1, 11);
        Check.faultyDeed("end a pays 1 1 if 1=1;", 1, 13);
        Check.faultyDeed("end a pays 1 poor if 1=1;", 1, 13);
        Check.faultyDeed("end a pays () if 1=1;", 1, 12);
        Check.faultyDeed("end a pays (1] if 1=1;", 1, 13);
        Check.faultyDeed("end a pays [1] if 1=1;", 1, 11);
        Check.faultyDeed("end a pays 1) if 1=1;", 1, 12);
        Check.faultyDeed("end a pays 1/2 if 1=1;", 1, 12);
        Check.faultyDeed("end a pays 1 if 1=1) part;", 1, 19);
        Check.faultyAct("?", 1, 0);
        Check.faultyAct("keep ?;", 1, 5);
        Check.faultyAct("keep keep;", 1, 5);
        Check.faultyNear("?", 1, 0);
        for (int one = 0; one < 256; one++) {
            boolean letterOrFigure = one >= 'a' && one <= 'z' || one >= '0' && one <= '9';
            if (!letterOrFigure && one != ' ' && one != '\n' && one != ';') {
                Check.faultyDeed("mark 1" + (char) one, 1, 6);
            }
        }
    }

    private static void wordAboveEightLetters() {
        Check.sentence("(a WORD above 8 letters in place of an end's NAME)");
        Check.goodDeed("end abcdefgh pays 1 if 1=1;");
        Check.faultyDeed("end abcdefghi pays 1 if 1=1;", 1, 4);
        Check.faultyDeed("end  " + "z".repeat(300) + " pays 1 if 1=1;", 1, 5);
        Check.faultyNear("end abcdefghi pays 1 if 1=1;", 1, 4);
    }

    private static void moreThanFourFigures() {
        Check.sentence("(more than 4 figures: at the first one)");
        Check.faultyDeed("mark  00001;", 1, 6);
        Check.faultyDeed("end a pays 1*12345 if 1=1;", 1, 13);
        Check.faultyDeed("end a pays 99999999999999999999 if 1=1;", 1, 11);
        Check.faultyDeed("mark 1 4294967297;", 1, 7);
        Check.faultyAct("keep 10000;", 1, 5);
        Check.faultyAct("bar near if 00000=1;", 1, 12);
    }

    private static void theEnd() {
        Check.sentence("(the end: at how many bytes there are)");
        Check.faultyDeed("mark", 1, 4);
        Check.faultyDeed("mark   ", 1, 7);
        Check.faultyDeed("mark 1", 1, 6);
        Check.faultyDeed("mark 1\n", 1, 7);
        Check.faultyDeed("end", 1, 3);
        Check.faultyDeed("end a", 1, 5);
        Check.faultyDeed("end a pays", 1, 10);
        Check.faultyDeed("end a pays (", 1, 12);
        Check.faultyDeed("end a pays (1", 1, 13);
        Check.faultyDeed("end a pays 1+", 1, 13);
        Check.faultyDeed("end a pays 1 if", 1, 15);
        Check.faultyDeed("end a pays 1 if not", 1, 19);
        Check.faultyDeed("end a pays 1 if [", 1, 17);
        Check.faultyDeed("end a pays 1 if 1", 1, 17);
        Check.faultyDeed("end a pays 1 if 1=", 1, 18);
        Check.faultyDeed("trust", 1, 5);
        Check.faultyDeed("trust 1", 1, 7);
        Check.faultyAct("bar", 1, 3);
        Check.faultyAct("bar near", 1, 8);
        Check.faultyAct("bar near if 1=1 and  ", 1, 21);
        Check.faultyAct("keep", 1, 4);
        Check.faultyNear("", 1, 0);
        Check.faultyNear("   ", 1, 3);
    }

    private static void numbersOfMark() {
        Check.sentence("2 an N that can't be: of mark above 7");
        Check.goodDeed("mark 0;");
        Check.goodDeed("mark 7;");
        Check.faultyDeed("mark 8;", 2, 5);
        Check.faultyDeed("mark 9999;", 2, 5);
        Check.faultyDeed("mark 7 7 8;", 2, 9);
    }

    private static void numbersOfTrust() {
        Check.sentence("of trust the first not 1 to 7, the second 0 or above the first");
        Check.goodDeed("trust 1 1;");
        Check.goodDeed("trust 7 7;");
        Check.goodDeed("trust 7 1;");
        Check.faultyDeed("trust 0 0;", 2, 6);
        Check.faultyDeed("trust 8 8;", 2, 6);
        Check.faultyDeed("trust 9999 1;", 2, 6);
        Check.faultyDeed("trust 1 0;", 2, 8);
        Check.faultyDeed("trust 1 2;", 2, 8);
        Check.faultyDeed("trust 7 8;", 2, 8);
        Check.faultyDeed("trust 6 7;", 2, 8);
    }

    private static void numbersOfRules() {
        Check.sentence("of fail not 1 to 50, of keep above 8, of days not 1 to 360, of late not 1 to 720, of gain"
                + " above 20, of sell not 1 to 40");
        String[] rules = {"fail", "keep", "days", "late", "gain", "sell"};
        int[] least = {1, 0, 1, 1, 0, 1};
        int[] most = {50, 8, 360, 720, 20, 40};
        for (int i = 0; i < rules.length; i++) {
            Check.goodAct(rules[i] + " " + least[i] + ";", 1);
            Check.goodAct(rules[i] + " " + most[i] + ";", 1);
            Check.faultyAct(rules[i] + " " + (most[i] + 1) + ";", 2, 5);
            Check.faultyAct(rules[i] + " 9999;", 2, 5);
            if (least[i] > 0) {
                Check.faultyAct(rules[i] + " 0;", 2, 5);
            }
        }
    }

    private static void noNames() {
        Check.sentence("3 a WORD that is to be a FACTOR and is no NAME there");
        Check.faultyDeed("end a pays wine if 1=1;", 3, 11);
        Check.faultyDeed("end a pays 1+wine if 1=1;", 3, 13);
        Check.faultyDeed("end a pays 1-wine if 1=1;", 3, 13);
        Check.faultyDeed("end a pays 1*wine if 1=1;", 3, 13);
        Check.faultyDeed("end a pays (wine) if 1=1;", 3, 12);
        Check.faultyDeed("end a pays 1 if wine=1;", 3, 16);
        Check.faultyDeed("end a pays 1 if 1<wine;", 3, 18);
        Check.faultyDeed("end a pays 1 if not wine=1;", 3, 20);
        Check.faultyDeed("end a pays 1 if [wine=1];", 3, 17);
        Check.faultyDeed("end a pays 1 if 1=1 and wine=1;", 3, 24);
        Check.faultyDeed("end a pays 1 if 1=1 or wine=1;", 3, 23);
        Check.faultyDeed("end a pays withoutnumber if 1=1;", 3, 11);
        Check.faultyAct("bar near if wine=1;", 3, 12);
        Check.faultyNear("end a pays wine if 1=1;", 3, 11);
        Check.faultyDeed("end a pays 1 if 1=1 and a=1;", 3, 24);
    }

    private static void nameThereAlready() {
        Check.sentence("an end's NAME that there is already");
        Check.faultyDeed("end a pays 1 if 1=1;end a pays 1 if 1=1;", 3, 24);
        Check.faultyDeed("end a pays 1 if 1=1;end b pays 1 if 1=1;end b pays 1 if 1=1;", 3, 44);
        Check.faultyDeed("end a pays 1 if 1=1;end b pays 1 if 1=1;end a", 3, 44);
        Check.goodDeed("end a pays 1 if 1=1;end aa pays 1 if 1=1;end b pays 1 if 1=1;");
        Check.goodDeed("end abcdefgh pays 1 if 1=1;end abcdefgi pays 1 if 1=1;end bbcdefgh pays 1 if 1=1;");
        TrustDesk x = new TrustDesk();
        Check.same("one fund", Check.fund(x, 0, 0, "end a pays 1 if 1=1;"), 0);
        Check.same("another may have it too", Check.fund(x, 0, 0, "end a pays 1 if 1=1;"), 1);
        Check.same("a near end too", Check.near(x, 0, "end a pays 1 if 1=1;"), 0);
        Check.same("and another", Check.near(x, 0, "end a pays 1 if 1=1;"), 1);
    }

    private static void thirteenthClause() {
        Check.sentence("4 as a 13th CLAUSE begins");
        String twelve = "mark 1;".repeat(12);
        Check.goodDeed(twelve);
        Check.goodDeed(twelve + " \n");
        Check.faultyDeed(twelve + "mark 1;", 4, 84);
        Check.faultyDeed(twelve + "  mark 9;", 4, 86);
        Check.faultyDeed(twelve + "trust", 4, 84);
        Check.faultyDeed(twelve + "end", 4, 84);
        Check.goodDeed("mark 1;".repeat(6) + "trust 1 1;".repeat(5) + "end a pays 1 if 1=1;");
        Check.faultyDeed("trust 1 1;".repeat(11) + "end a pays 1 if 1=1;mark", 4, 130);
    }

    private static void twentyFirstRule() {
        Check.sentence("4 as (a 21st RULE) begins");
        String twenty = "keep 1;".repeat(20);
        Check.goodAct(twenty, 20);
        Check.goodAct(twenty + "  ", 20);
        Check.faultyAct(twenty + "keep", 4, 140);
        Check.faultyAct(twenty + " fail 0;", 4, 141);
        Check.faultyAct(twenty + "bar", 4, 140);
        Check.goodAct("bar near if 1=1;".repeat(20), 20);
        Check.faultyAct("bar near if 1=1;".repeat(20) + "bar", 4, 320);
    }

    private static void seventhEnd() {
        Check.sentence("4 as a 7th end begins (at that word)");
        StringBuilder six = new StringBuilder();
        for (char name = 'a'; name < 'g'; name++) {
            six.append("end ").append(name).append(" pays 1 if 1=1;");
        }
        Check.goodDeed(six.toString());
        Check.goodDeed(six + "mark 1;mark 1;trust 1 1;mark 1;mark 1;mark 1;");
        Check.faultyDeed(six + "end g pays 1 if 1=1;", 4, 120);
        Check.faultyDeed(six + "mark 1;  end", 4, 129);
        Check.faultyDeed(six + "end a pays 1 if 1=1;", 4, 120);
    }

    private static void fifthBracket() {
        Check.sentence("4 as a 5th bracket (of both sorts together) that is open at once");
        Check.goodDeed("end a pays ((((1)))) if [[[[1=1]]]];");
        Check.goodDeed("end a pays (1)+(1)+(1)+(1)+(1) if [1=1] and [1=1] and [1=1] and [1=1] and [1=1];");
        Check.goodDeed("end a pays 1 if [[((1))=((1))]];");
        Check.goodDeed("end a pays ((1)*((1)*((1)))) if 1=1;");
        Check.faultyDeed("end a pays (((((1))))) if 1=1;", 4, 15);
        Check.faultyDeed("end a pays 1+(((( (1))))) if 1=1;", 4, 18);
        Check.faultyDeed("end a pays 1 if [[[[[1=1]]]]];", 4, 20);
        Check.faultyDeed("end a pays 1 if [[[[(1)=1]]]];", 4, 20);
        Check.faultyDeed("end a pays 1 if [((((1))))=1];", 4, 20);
        Check.faultyDeed("end a pays 1 if [[[1=1] and [(((1", 4, 30);
        Check.faultyAct("bar near if [[((1))=1]] or [[[((1)", 4, 31);
        Check.faultyNear("end a pays (((((1", 4, 15);
    }

    private static void firstAlongTheText() {
        Check.sentence("FAULTS, the first along the text");
        Check.faultyDeed("mark 8;end a pays wine if 1=1;", 2, 5);
        Check.faultyDeed("end a pays wine if 1=1;mark 8;", 3, 11);
        Check.faultyDeed("end a pays (((((wine if 1=1;mark 8;?", 4, 15);
        Check.faultyDeed("mark 8 ?", 2, 5);
        Check.faultyDeed("mark ? 8", 1, 5);
        Check.faultyDeed("mark 8 12345;", 2, 5);
        Check.faultyAct("keep 9;fail 0;", 2, 5);
        Check.faultyAct("keep 8;fail 0;?", 2, 12);
        Check.faultyAct("bar near if wine=1;keep 9;", 3, 12);
    }

    private static void ofOnePlaceTheLeast() {
        Check.sentence("FAULTS, of one place the least");
        Check.faultyDeed("mark 1;".repeat(12) + "wine", 1, 84);
        Check.faultyDeed("mark 1;".repeat(12) + "?", 1, 84);
        Check.faultyDeed("mark 1;".repeat(12) + "8", 1, 84);
        Check.faultyAct("keep 1;".repeat(20) + "wine", 1, 140);
        Check.faultyAct("keep 1;".repeat(20) + ";", 1, 140);
        Check.faultyDeed("mark 88888;", 1, 5);
        Check.faultyAct("keep 99999;", 1, 5);
        Check.faultyDeed("end a pays (((([1", 1, 15);
        Check.faultyDeed("end a pays ((((1(", 1, 16);
        Check.faultyDeed("end a pays 1 if [[[[1[", 1, 21);
        Check.faultyDeed("end a pays 1 if [[[[1=[", 1, 22);
    }

    private static void faultyDeedChangesNothing() {
        Check.sentence("A text with a FAULT changes nothing");
        TrustDesk x = new TrustDesk();
        Check.fund(x, 1, 2, "mark 1;trust 3 2;end a pays 1 if 1=1;");
        Check.same("a fault behind good clauses", Check.fund(x, 5, 6, "mark 2;trust 5 5;end b pays 1 if 1=1;?"), -2);
        Check.same("one fund", x.count(4), 1);
        Check.same("no founder", x.paid(1), -1);
        Check.same("its marks", x.fundOf(0, 2), 2);
        Check.same("its ends", x.fundOf(0, 3), 1);
        Check.same("its trust", x.fundOf(0, 8), 3);
        Check.same("the next number", Check.fund(x, 5, 6, ""), 1);
        Check.same("without its marks", x.fundOf(1, 2), 0);
        Check.same("without its ends", x.fundOf(1, 3), 0);
        Check.same("without its trust", x.fundOf(1, 8), 7);
    }

    private static void faultyActChangesNothing() {
        Check.sentence("A text with a FAULT changes nothing");
        TrustDesk x = new TrustDesk();
        Check.act(x, 0, "keep 2;");
        Check.same("a fault behind good rules", Check.act(x, 0, "keep 5;fail 9;bar sale if 1=1;?"), -2);
        Check.same("one act", x.count(3), 1);
        Check.same("keep", x.holds(0, 1), 2);
        Check.same("fail", x.holds(0, 0), 3);
        Check.same("the next one is without its rules", Check.act(x, 0, ""), 0);
        Check.same("keep then", x.holds(0, 1), 1);
        Check.fund(x, 5, 0, "mark 1;");
        x.trustee(0, 0);
        x.propose(2, 0, 1);
        x.vote(0, 0, true);
        x.days(31);
        Check.same("no bar", x.settle(0), 0);
    }

    private static void faultyNearEndChangesNothing() {
        Check.sentence("A text with a FAULT changes nothing");
        TrustDesk x = new TrustDesk();
        Check.fund(x, 0, 0, "mark 1;");
        Check.same("more behind it", Check.near(x, 255, "end a pays 1 if 1=1;end"), -2);
        Check.same("none", x.count(5), 0);
        Check.same("no nearest", x.nearest(0), -1);
        Check.same("the next number", Check.near(x, 2, "end a pays 1 if 1=1;"), 0);
    }

    private static void bracketsOfAFaultyText() {
        Check.sentence("A text with a FAULT changes nothing: its open brackets are not those of the next");
        TrustDesk x = new TrustDesk();
        Check.same("four are open", Check.fund(x, 0, 0, "end a pays ((((?"), -2);
        Check.same("four again", Check.fund(x, 0, 0, "end a pays ((((1)))) if [[[[1=1]]]];"), 0);
        Check.same("four are open in an act", Check.act(x, 0, "bar sale if [[[["), -2);
        Check.same("four in an act", Check.act(x, 0, "bar sale if [[[[1=1]]]];"), 1);
        Check.same("four are open in a near end", Check.near(x, 0, "end a pays 1 if [[[["), -2);
        Check.same("four in a near end", Check.near(x, 0, "end a pays 1 if [[[[1=1]]]];"), 0);
    }

    private static void lastToldHolds() {
        Check.sentence("Of trust, and of fail, keep, days, late, gain, sell the last told in the text holds");
        TrustDesk x = new TrustDesk();
        Check.fund(x, 0, 0, "trust 7 7;mark 1;trust 5 4;trust 3 2;");
        Check.same("trust", x.fundOf(0, 8), 3);
        Check.same("its second", x.fundOf(0, 9), 2);
        Check.same("rules", Check.act(x, 0, "fail 9;keep 3;fail 8;days 9;late 9;gain 9;sell 9;fail 2;keep 0;days 7;"
                + "late 5;gain 0;sell 3;"), 13);
        int[] want = {2, 0, 7, 5, 0, 3};
        for (int what = 0; what < 6; what++) {
            Check.same("rule " + what, x.holds(0, what), want[what]);
        }
    }

    private static void withoutTheRule() {
        Check.sentence("(7 and 1; 3, 1, 30, 90, 0, 20 without)");
        TrustDesk x = new TrustDesk();
        Check.fund(x, 0, 0, "mark 1;");
        Check.same("trust", x.fundOf(0, 8), 7);
        Check.same("its second", x.fundOf(0, 9), 1);
        int[] want = {3, 1, 30, 90, 0, 20};
        String[] rules = {"fail", "keep", "days", "late", "gain", "sell"};
        for (int told = 0; told < 6; told++) {
            Check.act(x, 0, rules[told] + " 7;");
            for (int what = 0; what < 6; what++) {
                Check.same("rule " + what, x.holds(0, what), what == told ? 7 : want[what]);
            }
        }
    }

    // ---- acts

    private static void twentyActs() {
        Check.sentence("ACTS, at most 20, are told on the DAY at hand");
        TrustDesk x = new TrustDesk();
        for (int i = 0; i < 19; i++) {
            Check.act(x, i, "keep 2;");
        }
        Check.same("a faulty one is none", Check.act(x, 0, "keep 9;"), -3);
        Check.same("the twentieth", Check.act(x, 0, "keep 4;gain 1;"), 2);
        Check.same("the 21st", Check.act(x, 0, "keep 5;"), -1);
        Check.same("with a fault", x.act(0), -1);
        Check.same("twenty", x.count(3), 20);
        Check.same("the twentieth holds", x.holds(0, 1), 4);
    }

    private static void fromAnyDay() {
        Check.sentence("in force from a DAY on (any)");
        TrustDesk x = new TrustDesk();
        x.days(700);
        Check.same("from day 0, long ago", Check.act(x, 0, "keep 2;"), 1);
        Check.same("from the last day", Check.act(x, 36000, "keep 3;"), 1);
        Check.same("from the day at hand", Check.act(x, 700, "keep 4;"), 1);
        Check.same("day 0", x.holds(0, 1), 2);
        Check.same("day 699", x.holds(699, 1), 2);
        Check.same("day 700", x.holds(700, 1), 4);
        Check.same("day 35999", x.holds(35999, 1), 4);
        Check.same("day 36000", x.holds(36000, 1), 3);
        Check.same("from day 36001", Check.act(x, 36001, "keep 3;"), -1);
        x.end(0);
        Check.same("from day -1", Check.act(x, -1, "keep 3;"), -1);
    }

    private static void inForceFromItsDay() {
        Check.sentence("IN FORCE on a DAY: of those from it or ahead of it");
        TrustDesk x = new TrustDesk();
        Check.act(x, 10, "gain 5;");
        Check.same("the day ahead", x.holds(9, 4), 0);
        Check.same("its day", x.holds(10, 4), 5);
        Check.same("the day behind", x.holds(11, 4), 5);
    }

    private static void latestDayHolds() {
        Check.sentence("that of the latest such DAY");
        TrustDesk x = new TrustDesk();
        Check.act(x, 20, "gain 2;");
        Check.act(x, 30, "gain 3;");
        Check.act(x, 10, "gain 1;");
        Check.same("day 10", x.holds(10, 4), 1);
        Check.same("day 19", x.holds(19, 4), 1);
        Check.same("day 20", x.holds(20, 4), 2);
        Check.same("day 29", x.holds(29, 4), 2);
        Check.same("day 30", x.holds(30, 4), 3);
    }

    private static void ofOneDayTheLastTold() {
        Check.sentence("of one DAY the last told");
        TrustDesk x = new TrustDesk();
        Check.act(x, 10, "gain 1;keep 5;");
        Check.act(x, 10, "gain 2;");
        Check.same("the last", x.holds(10, 4), 2);
        Check.same("nothing of the other", x.holds(10, 1), 1);
        Check.act(x, 10, "");
        Check.same("an empty one too", x.holds(10, 4), 0);
        Check.act(x, 0, "gain 9;");
        Check.act(x, 0, "gain 8;");
        Check.same("of day 0", x.holds(9, 4), 8);
    }

    private static void asNowKnown() {
        Check.sentence("IN FORCE on a DAY, as it is now known");
        TrustDesk x = new TrustDesk();
        x.days(100);
        Check.same("a day gone by", x.holds(50, 4), 0);
        Check.act(x, 40, "gain 4;");
        Check.same("as it is known then", x.holds(50, 4), 4);
        Check.act(x, 50, "gain 5;");
        Check.same("and later", x.holds(50, 4), 5);
        Check.same("but ahead of it", x.holds(49, 4), 4);
    }

    private static void noneInForce() {
        Check.sentence("none: one without RULES");
        TrustDesk x = new TrustDesk();
        Check.act(x, 36000, "fail 9;keep 8;days 9;late 9;gain 9;sell 9;bar sale if 1=1;");
        int[] want = {3, 1, 30, 90, 0, 20};
        for (int what = 0; what < 6; what++) {
            Check.same("rule " + what, x.holds(35999, what), want[what]);
        }
        Check.fund(x, 5, 0, "mark 1;");
        x.trustee(0, 0);
        x.propose(2, 0, 1);
        x.vote(0, 0, true);
        x.days(31);
        Check.same("no bars", x.settle(0), 0);
    }
}
