/** Promises 1 to 10: a new object, facts, the tape, acts, deeds, near ends and their faults. */
public final class FactsAndTextsTest {
    public static void main(String[] args) {
        newObject();
        facts();
        factsAsKnown();
        factLimit();
        tape();
        acts();
        actsInForce();
        actFaults();
        deeds();
        deedFaults();
        numbersThatCantBe();
        tooMany();
        brackets();
        nearEnds();
        Check.done();
    }

    // promise 1
    private static void newObject() {
        TrustDesk x = new TrustDesk();
        Check.same("NONE", TrustDesk.NONE, -1);
        for (int what = 0; what <= 10; what++) {
            Check.same("new count " + what, x.count(what), 0);
        }
        Check.same("place without a text", x.place(), -1);
        Check.same("fact untold", x.factOf(0, 0, 0), 0);
        int[] without = {3, 1, 30, 90, 0, 20};
        for (int what = 0; what < 6; what++) {
            Check.same("holds without acts", x.holds(36000, what), without[what]);
        }
        Check.same("coin of no fund", x.coin(0), -1);
        Check.same("no entry", x.entry(0, 0), -1);
    }

    // promise 2
    private static void facts() {
        TrustDesk x = new TrustDesk();
        Check.yes("lowest", x.fact(0, 0, 0));
        Check.yes("highest", x.fact(7, 100, 9999));
        Check.no("which below", x.fact(-1, 0, 0));
        Check.no("which above", x.fact(8, 0, 0));
        Check.no("year below", x.fact(0, -1, 0));
        Check.no("year above", x.fact(0, 101, 0));
        Check.no("number below", x.fact(0, 0, -1));
        Check.no("number above", x.fact(0, 0, 10000));
        Check.same("two told", x.count(2), 2);
        Check.same("highest told", x.factOf(7, 100, 0), 9999);
    }

    // promise 3
    private static void factsAsKnown() {
        TrustDesk x = new TrustDesk();
        x.fact(2, 5, 50);
        x.fact(2, 3, 30);
        x.days(10);
        x.fact(2, 5, 51);
        x.fact(2, 5, 52);
        x.days(10);
        x.fact(2, 4, 40);
        Check.same("of its year, then", x.factOf(2, 5, 9), 50);
        Check.same("the last told of a day", x.factOf(2, 5, 10), 52);
        Check.same("the year ahead", x.factOf(2, 4, 19), 30);
        Check.same("told of the year", x.factOf(2, 4, 20), 40);
        Check.same("the latest year ahead", x.factOf(2, 100, 20), 52);
        Check.same("ahead of all", x.factOf(2, 2, 20), 0);
        Check.same("another fact", x.factOf(3, 5, 20), 0);
        Check.same("day not yet", x.factOf(2, 5, 21), -1);
        Check.same("day below", x.factOf(2, 5, -1), -1);
        Check.same("which below", x.factOf(-1, 5, 0), -1);
        Check.same("which above", x.factOf(8, 5, 0), -1);
        Check.same("year below", x.factOf(2, -1, 0), -1);
        Check.same("year above", x.factOf(2, 101, 0), -1);
    }

    private static void factLimit() {
        TrustDesk x = new TrustDesk();
        for (int i = 0; i < 300; i++) {
            Check.yes("telling " + i, x.fact(i % 8, 7, i));
        }
        Check.no("telling 301", x.fact(0, 7, 1));
        Check.same("three hundred", x.count(2), 300);
        Check.same("the last", x.factOf(299 % 8, 7, 0), 299);
    }

    // promises 4 and 5
    private static void tape() {
        TrustDesk x = new TrustDesk();
        for (int i = 1; i <= 20; i++) {
            Check.same("feed " + i, x.feed(0, 0, 0, 0, 0), i * 20);
        }
        Check.same("feed over", x.feed(0, 0, 0, 0, 0), -1);
        Check.same("still full", x.count(8), 400);
        Check.same("more than it has", x.end(401), -1);
        Check.same("below 0", x.end(-1), -1);
        Check.same("all", x.end(400), 400);
        Check.same("some", x.end(381), 381);
        Check.same("no room for twenty", x.feed(0, 0, 0, 0, 0), -1);
        Check.same("some less", x.end(380), 380);
        Check.same("room again", x.feed(0, 0, 0, 0, 0), 400);
        Check.same("none", x.end(0), 0);
        Check.same("one more than none", x.end(1), -1);
        // the highest byte of each number is the first: "mark" " 1;;" is at fault at its second ;
        x.feed(0x6d61726b, 0x20313b3b, -1, -1, -1);
        Check.same("high bytes", x.fund(0, 0), -2);
        Check.same("order of bytes", x.place(), 7);
        x.feed(0x6d61726b, 0x20313bff, -1, -1, -1);
        Check.same("a byte above 127", x.fund(0, 0), -2);
        Check.same("its place", x.place(), 7);
    }

    // promise 6
    private static void acts() {
        TrustDesk x = new TrustDesk();
        Check.same("an empty act", x.act(0), 0);
        Check.same("rules as often as told", Check.act(x, 5, "fail 1;fail 50;bar sale if 1=1;"), 3);
        Check.same("no fault", x.place(), -1);
        Check.same("tape is empty", x.count(8), 0);
        Check.type(x, "keep 0;");
        Check.same("no such day", x.act(36001), -1);
        Check.same("day below", x.act(-1), -1);
        Check.same("the tape stays", x.count(8), 7);
        Check.same("the last day", x.act(36000), 1);
        Check.same("a fault", Check.act(x, 0, "keep"), -2);
        Check.same("its place", x.place(), 4);
        Check.same("none for a day keeps the place", x.act(-1), -1);
        Check.same("place stays", x.place(), 4);
        for (int i = 3; i < 20; i++) {
            Check.same("act " + i, Check.act(x, i, "days 1;"), 1);
        }
        Check.type(x, "days 1;");
        Check.same("act 21", x.act(0), -1);
        Check.same("the tape stays too", x.count(8), 7);
        Check.same("twenty", x.count(3), 20);
    }

    // promise 7
    private static void actsInForce() {
        TrustDesk x = new TrustDesk();
        Check.act(x, 100, "fail 50;keep 8;days 360;late 720;gain 20;sell 40;");
        int[] most = {50, 8, 360, 720, 20, 40};
        int[] without = {3, 1, 30, 90, 0, 20};
        for (int what = 0; what < 6; what++) {
            Check.same("from its day", x.holds(100, what), most[what]);
            Check.same("ahead of it", x.holds(99, what), without[what]);
            Check.same("far behind it", x.holds(36000, what), most[what]);
        }
        Check.act(x, 100, "gain 1;gain 2;");
        Check.same("of one day the last told", x.holds(100, 4), 2);
        Check.same("and nothing of the other", x.holds(100, 0), 3);
        Check.act(x, 50, "sell 7;");
        Check.same("a day between", x.holds(60, 5), 7);
        Check.same("the latest day", x.holds(100, 5), 20);
        Check.act(x, 0, "fail 1;keep 0;days 1;late 1;gain 0;sell 1;");
        int[] least = {1, 0, 1, 1, 0, 1};
        for (int what = 0; what < 6; what++) {
            Check.same("the least", x.holds(0, what), least[what]);
        }
        Check.same("what below", x.holds(0, -1), -1);
        Check.same("what above", x.holds(0, 6), -1);
        Check.same("day below", x.holds(-1, 0), -1);
        Check.same("day above", x.holds(36001, 0), -1);
    }

    private static void actFaults() {
        Check.faultyAct("mark 1;", 1, 0);
        Check.faultyAct("fail;", 1, 4);
        Check.faultyAct("fail 3", 1, 6);
        Check.faultyAct("fail 3  ", 1, 8);
        Check.faultyAct("fail 3 4;", 1, 7);
        Check.faultyAct("fail 3;;", 1, 7);
        Check.faultyAct("fails 3;", 1, 0);
        Check.faultyAct("FAIL 3;", 1, 0);
        Check.faultyAct("fail\t3;", 1, 4);
        Check.faultyAct("fail 00003;", 1, 5);
        Check.faultyAct("bar", 1, 3);
        Check.faultyAct("bar end if 1=1;", 1, 4);
        Check.faultyAct("bar near 1=1;", 1, 9);
        Check.faultyAct("bar near if 1=1 part;", 1, 16);
        Check.faultyAct("bar near if 1=1", 1, 15);
        Check.faultyAct("bar near if living=death;", 3, 19);
        Check.faultyAct("bar near if ;", 1, 12);
        Check.faultyAct("bar near if 1=1 and;", 1, 19);
        Check.faultyAct("bar near if 1=1 or", 1, 18);
        Check.faultyAct("bar near if not;", 1, 15);
        Check.faultyAct("bar near if [1=1;", 1, 16);
        Check.faultyAct("bar near if [1=1);", 1, 16);
        Check.faultyAct("bar near if 1==1;", 1, 14);
        Check.faultyAct("bar near if (1)(1)=1;", 1, 15);
        Check.faultyAct("bar near if ([1=1])=1;", 1, 13);
        TrustDesk x = new TrustDesk();
        Check.same("figures and words may touch", Check.act(x, 0, "fail3;keep0;\nbar join if not1=1;"), 3);
        Check.same("all names of an act", Check.act(x, 0, "bar join if poor+maids+boys+sick+bread+coal+"
                + "rent+lake+income+coin+living+dead+marks>(1);"), 1);
        Check.same("all kinds", Check.act(x, 0,
                "bar near if 1=1;bar join if 1=1;bar sale if 1=1;bar strike if 1=1;"), 4);
    }

    // promise 8
    private static void deeds() {
        TrustDesk x = new TrustDesk();
        Check.same("an empty deed", x.fund(0, 0), 0);
        Check.same("all clauses", Check.fund(x, 999, 99999, "mark 0 7;mark 3 3;trust 2 2;trust 7 7;trust 3 2;"
                + "end mark pays (poor) if [lake=1] or not not 1<2 and income>coin part;"
                + "end end pays 9999-1*2 if 1 = 1;"), 1);
        Check.same("place without a fault", x.place(), -1);
        Check.same("tape is empty", x.count(8), 0);
        Check.same("acres", x.fundOf(1, 0), 999);
        Check.same("stock", x.fundOf(1, 1), 99999);
        Check.same("marks", x.fundOf(1, 2), 137);
        Check.same("ends", x.fundOf(1, 3), 2);
        Check.same("trust", x.fundOf(1, 8), 3);
        Check.same("its second", x.fundOf(1, 9), 2);
        Check.same("trust without", x.fundOf(0, 8), 7);
        Check.same("its second without", x.fundOf(0, 9), 1);
        Check.same("letters", x.endOf(1, 1, 3), 3);
        Check.type(x, "mark 1;");
        Check.same("acres below", x.fund(-1, 0), -1);
        Check.same("acres above", x.fund(1000, 0), -1);
        Check.same("stock below", x.fund(0, -1), -1);
        Check.same("stock above", x.fund(0, 100000), -1);
        Check.same("the tape stays", x.count(8), 7);
        for (int i = 2; i < 12; i++) {
            Check.same("fund " + i, x.fund(i, i), i);
        }
        Check.same("the text was of fund 2", x.fundOf(2, 2), 2);
        Check.type(x, "mark 1;");
        Check.same("a 13th fund", x.fund(0, 0), -1);
        Check.same("the tape stays then", x.count(8), 7);
        Check.same("twelve", x.count(4), 12);
    }

    // promises 8 and 10
    private static void deedFaults() {
        Check.faultyDeed(" x;", 1, 1);
        Check.faultyDeed(";", 1, 0);
        Check.faultyDeed("fail 1;", 1, 0);
        Check.faultyDeed("mark 1", 1, 6);
        Check.faultyDeed("mark 1 x;", 1, 7);
        Check.faultyDeed("mark 1 2 12345;", 1, 9);
        Check.faultyDeed("mark x;", 1, 5);
        Check.faultyDeed("trust 3;", 1, 7);
        Check.faultyDeed("trust 3 2 1;", 1, 10);
        Check.faultyDeed("end 1 pays 1 if 1=1;", 1, 4);
        Check.faultyDeed("end", 1, 3);
        Check.faultyDeed("end abcdefghi pays 1 if 1=1;", 1, 4);
        Check.faultyDeed("end a pay 1 if 1=1;", 1, 6);
        Check.faultyDeed("end a pays if 1=1;", 3, 11);
        Check.faultyDeed("end a pays notawordhere if 1=1;", 3, 11);
        Check.faultyDeed("end a pays 12345 if 1=1;", 1, 11);
        Check.faultyDeed("end a pays 1+ if 1=1;", 3, 14);
        Check.faultyDeed("end a pays 1 + * 2 if 1=1;", 1, 15);
        Check.faultyDeed("end a pays -1 if 1=1;", 1, 11);
        Check.faultyDeed("end a pays [1] if 1=1;", 1, 11);
        Check.faultyDeed("end a pays (1 if 1=1;", 1, 14);
        Check.faultyDeed("end a pays 1) if 1=1;", 1, 12);
        Check.faultyDeed("end a pays 1 of 1=1;", 1, 13);
        Check.faultyDeed("end a pays 1 if dead=1;", 3, 16);
        Check.faultyDeed("end a pays 1 if marks=1;", 3, 16);
        Check.faultyDeed("end a pays 1 if 1=1 part part;", 1, 25);
        Check.faultyDeed("end a pays 1 if 1=1 parts;", 1, 20);
        Check.faultyDeed("end a pays 1 if 1=1;end b pays 1 if 1=1;end a pays 1 if 1=1;", 3, 44);
        Check.faultyDeed("end a pays 1 if 1=1 or 2;", 1, 24);
        Check.faultyDeed("end a pays 1 if 1<2<3;", 1, 19);
        Check.faultyDeed("mark 9;mark", 2, 5);
        Check.faultyDeed("end a pays 2*foo if 1=1;", 3, 13);
        Check.faultyDeed("end a pays 2*12345 if 1=1;", 1, 13);
        Check.faultyDeed("end a pays 2-foo if 1=1;", 3, 13);
        Check.faultyDeed("end a pays (((1*(foo)))) if 1=1;", 3, 17);
        Check.faultyDeed("end a pays 1 if not [1=foo];", 3, 23);
        Check.faultyDeed("end a pays 1 if 1=1 and foo=1;", 3, 24);
        TrustDesk x = new TrustDesk();
        Check.same("blanks of both sorts", Check.fund(x, 1, 1, "\n mark\n1\n;\n "), 0);
        Check.same("a name of eight letters", Check.fund(x, 1, 1, "end abcdefgh pays 1 if 1=1;"), 1);
        Check.same("eight", x.endOf(1, 0, 3), 8);
        TrustDesk least = new TrustDesk();
        Check.same("the least numbers", Check.fund(least, 0, 0, "mark 1 0;trust 1 1;"), 0);
        Check.same("marks 0 and 1", least.fundOf(0, 2), 3);
        Check.same("trust of one", least.fundOf(0, 8), 1);
        Check.same("names alike but for the length", Check.fund(x, 1, 1,
                "end a pays 1 if 1=1;end aa pays 1 if 1=1;end z pays 1 if 1=1;"), 2);
        Check.same("a fault", Check.fund(x, 1, 1, "mark 8;"), -3);
        Check.same("no text was read", x.fund(-1, 0), -1);
        Check.same("place of the latest", x.place(), 5);
        Check.same("a good text", Check.fund(x, 1, 1, "mark 1;"), 3);
        Check.same("no place", x.place(), -1);
        String long400 = "mark 1;" + " ".repeat(386) + "mark 2;";
        Check.same("four hundred bytes", Check.fund(x, 0, 0, long400), 4);
        Check.same("all of them read", x.fundOf(4, 2), 6);
    }

    private static void numbersThatCantBe() {
        Check.faultyDeed("mark 8;", 2, 5);
        Check.faultyDeed("mark 0 1 9999;", 2, 9);
        Check.faultyDeed("mark 1 8;", 2, 7);
        Check.faultyDeed("trust 0 0;", 2, 6);
        Check.faultyDeed("trust 8 1;", 2, 6);
        Check.faultyDeed("trust 7 0;", 2, 8);
        Check.faultyDeed("trust 6 7;", 2, 8);
        Check.faultyAct("fail 0;", 2, 5);
        Check.faultyAct("fail 51;", 2, 5);
        Check.faultyAct("keep 9;", 2, 5);
        Check.faultyAct("days 0;", 2, 5);
        Check.faultyAct("days 361;", 2, 5);
        Check.faultyAct("late 0;", 2, 5);
        Check.faultyAct("late 721;", 2, 5);
        Check.faultyAct("gain 21;", 2, 5);
        Check.faultyAct("sell 0;", 2, 5);
        Check.faultyAct("sell 41;", 2, 5);
        Check.faultyAct("sell 41", 2, 5);
    }

    private static void tooMany() {
        String twelve = "mark 1;".repeat(12);
        Check.same("twelve clauses", Check.fund(new TrustDesk(), 0, 0, twelve), 0);
        Check.faultyDeed(twelve + " mark", 4, 85);
        Check.faultyDeed(twelve + "trust", 4, 84);
        Check.faultyDeed(twelve + "end", 4, 84);
        Check.faultyDeed(twelve + "foo", 1, 84);
        Check.faultyDeed(twelve + "1", 1, 84);
        StringBuilder ends = new StringBuilder();
        for (char name = 'a'; name < 'g'; name++) {
            ends.append("end ").append(name).append(" pays 1 if 1=1;");
        }
        Check.same("six ends", Check.fund(new TrustDesk(), 0, 0, ends.toString()), 0);
        Check.faultyDeed(ends + "mark 1; end a", 4, 128);
        String rules = "late 1;".repeat(20);
        Check.same("twenty rules", Check.act(new TrustDesk(), 0, rules), 20);
        Check.faultyAct(rules + "bar", 4, 140);
        Check.faultyAct(rules + "fail", 4, 140);
        Check.faultyAct(rules + "mark", 1, 140);
    }

    private static void brackets() {
        Check.same("four round", Check.fund(new TrustDesk(), 0, 0, "end a pays ((((1)))) if 1=1;"), 0);
        Check.faultyDeed("end a pays (((((1))))) if 1=1;", 4, 15);
        Check.same("four of both sorts", Check.fund(new TrustDesk(), 0, 0,
                "end a pays ((((1))))+((((1)))) if [[((1))=1]] or [[[(1)=1]]];"), 0);
        Check.faultyDeed("end a pays 1 if [[((( 1", 4, 20);
        Check.faultyDeed("end a pays 1 if [[[[[ 1", 4, 20);
        Check.faultyDeed("end a pays 1 if [[[[(1)=1", 4, 20);
        Check.faultyDeed("end a pays 1 if ((((1))))=1 and [[[[(", 4, 36);
        Check.faultyAct("bar near if not [not [not [not [not [", 4, 36);
    }

    // promise 9
    private static void nearEnds() {
        Check.faultyNear("", 1, 0);
        Check.faultyNear(" ", 1, 1);
        Check.faultyNear("mark 1;", 1, 0);
        Check.faultyNear("trust 1 1;", 1, 0);
        Check.faultyNear("end a pays 1 if 1=1", 1, 19);
        Check.faultyNear("end a pays 1 if 1=1;;", 1, 20);
        Check.faultyNear("end a pays 1 if 1=1; end b pays 1 if 1=1;", 1, 21);
        Check.faultyNear("end abcdefghi pays 1 if 1=1;", 1, 4);
        Check.faultyNear("end a pays living if 1=1;", 3, 11);
        Check.faultyNear("end a pays (((((1", 4, 15);
        TrustDesk x = new TrustDesk();
        Check.type(x, "end a pays 1 if 1=1 part ; ");
        Check.same("marks below", x.near(-1), -1);
        Check.same("marks above", x.near(256), -1);
        Check.same("the tape stays", x.count(8), 27);
        Check.same("the first", x.near(255), 0);
        Check.same("tape is empty", x.count(8), 0);
        for (int i = 1; i < 12; i++) {
            Check.same("near " + i, Check.near(x, 0, "end a pays 1 if 1=1;"), i);
        }
        Check.type(x, "end a pays 1 if 1=1;");
        Check.same("a 13th", x.near(0), -1);
        Check.same("the tape stays then", x.count(8), 20);
        Check.same("twelve", x.count(5), 12);
    }
}
