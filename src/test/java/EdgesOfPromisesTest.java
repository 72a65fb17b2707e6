import java.util.NoSuchElementException;
import java.util.function.ToLongFunction;

/** The boundary cases of promises 1 to 35: refused calls and what they leave as it was, the least and greatest arguments. */
public final class EdgesOfPromisesTest {
    private static final int MIN = Integer.MIN_VALUE;
    private static final int MAX = Integer.MAX_VALUE;
    private static final int[] WILD = {MIN, MIN + 1, -36000, -2, -1, 101, 36001, 1 << 30, MAX - 1, MAX};
    private static final String NEAR = "end n pays 1 if 1=1;";

    private static String untouched;

    public static void main(String[] args) {
        untouched = told(rich());
        aNewObject();
        fact();
        factOf();
        feed();
        end();
        act();
        holds();
        fund();
        near();
        place();
        days();
        trustee();
        propose();
        objects();
        withdraws();
        vote();
        settle();
        scheme();
        fundOf();
        coin();
        income();
        part();
        paid();
        endOf();
        due();
        why();
        entry();
        nearest();
        marks();
        group();
        grouped();
        lay();
        judge();
        account();
        count();
        Check.done();
    }

    /**
     * A desk on day 724: fund 0 has a living, a dead and a struck end, fund 1 is joined to fund 2, fund 3
     * is without marks; scheme 0 (strike) and 1 (join) are made, 2 has failed, 3 (sale) is open with one
     * objection and one vote, 4 is open and may be settled; one account is given; the tape has a text.
     */
    private static TrustDesk rich() {
        TrustDesk x = new TrustDesk();
        x.fact(6, 0, 10);
        x.fact(0, 1, 3);
        Check.act(x, 0, "fail 2;days 1;gain 5;bar strike if poor=99;");
        Check.fund(x, 7, 50, "mark 1 2;trust 3 1;end a pays 9 if 1=1;end bb pays 1 if 1=2;end c pays 1 if 1=1;");
        Check.fund(x, 2, 30, "mark 1;");
        Check.fund(x, 2, 30, "mark 1 3;end d pays poor if poor>0;");
        Check.fund(x, 2, 30, "");
        Check.near(x, 6, "end near pays 5 if 1=1 part;");
        Check.near(x, 8, NEAR);
        for (int fund = 0; fund < 4; fund++) {
            x.trustee(fund, 0);
        }
        Check.carried(x, 3, 0, 2);
        Check.carried(x, 1, 1, 2);
        x.days(716);
        Check.carried(x, 2, 0, 8);
        x.propose(2, 0, 1);
        x.propose(2, 3, 1);
        x.days(2);
        Check.act(x, 724, "days 30;");
        x.propose(2, 0, 2);
        x.objects(5, 7);
        x.vote(5, 0, true);
        x.lay(2, 1);
        x.account(0, 0);
        Check.type(x, "mark 1 2 3;");
        return x;
    }

    /** All that a desk tells of itself, in less than 400 calls. */
    private static String told(TrustDesk x) {
        StringBuilder all = new StringBuilder();
        for (int what = 0; what < 12; what++) {
            all.append(x.count(what)).append(' ');
        }
        all.append(x.place()).append(' ');
        for (int which = 0; which < 8; which++) {
            all.append(x.factOf(which, 1, x.count(0))).append(' ');
        }
        for (int what = 0; what < 6; what++) {
            all.append(x.holds(0, what)).append(' ').append(x.holds(36000, what)).append(' ');
        }
        for (int fund = 0; fund < x.count(4); fund++) {
            for (int what = 0; what < 10; what++) {
                all.append(x.fundOf(fund, what)).append(' ');
            }
            all.append(x.coin(fund)).append(' ').append(x.paid(fund)).append(' ').append(x.nearest(fund)).append(' ');
            for (int founder = 0; founder < x.count(4); founder++) {
                all.append(x.part(fund, founder)).append(' ');
            }
            for (int end = 0; end < x.fundOf(fund, 3); end++) {
                for (int what = 0; what < 4; what++) {
                    all.append(x.endOf(fund, end, what)).append(' ');
                }
            }
        }
        for (int scheme = 0; scheme < x.count(6); scheme++) {
            for (int what = 0; what < 10; what++) {
                all.append(x.scheme(scheme, what)).append(' ');
            }
        }
        for (int k = 0; k < x.count(7); k++) {
            all.append(x.entry(k, 0)).append(' ').append(x.entry(k, 3)).append(' ');
        }
        all.append(x.judge(5)).append(' ').append(x.judge(9)).append(' ').append(x.group(13)).append(' ');
        // the tape: what it has is read as a deed of a fund
        all.append(x.fund(1, 1)).append(' ').append(x.place()).append(' ').append(x.fundOf(x.count(4) - 1, 2));
        return all.toString();
    }

    /** A call on the rich desk that is refused with this answer and changes nothing. */
    private static void refused(String call, ToLongFunction<TrustDesk> made, long want) {
        TrustDesk x = rich();
        Check.same(call, made.applyAsLong(x), want);
        Check.yes(call + " changes nothing", told(x).equals(untouched));
    }

    private static void refused(String call, ToLongFunction<TrustDesk> made) {
        refused(call, made, -1);
    }

    private static long n(boolean so) {
        return so ? 1 : 0;
    }

    private static void denied(String call, java.util.function.Predicate<TrustDesk> made) {
        refused(call, x -> n(made.test(x)), 0);
    }

    private static void aNewObject() {
        Check.sentence("1: No FACTS, ACTS, FUNDS; DAY 0; an empty TAPE");
        TrustDesk x = new TrustDesk();
        for (int what = 0; what < 12; what++) {
            Check.same("count " + what, x.count(what), 0);
        }
        Check.same("the tape", x.end(1), -1);
        Check.same("no fund", x.coin(0), -1);
        Check.same("no place", x.place(), -1);
        Check.same("no fact", x.factOf(6, 100, 0), 0);
        Check.same("no entry", x.entry(0, 0), -1);
        Check.same("no scheme", x.scheme(0, 0), -1);
        Check.same("NONE", TrustDesk.NONE, -1);
        TrustDesk other = new TrustDesk();
        x.fact(0, 0, 1);
        x.fund(1, 1);
        x.days(5);
        Check.same("another object has no facts by that", other.factOf(0, 0, 0), 0);
        Check.same("nor funds", other.count(4), 0);
        Check.same("nor days", other.count(0), 0);
    }

    private static void fact() {
        Check.sentence("2: False: no such ones, another number, 300 were told");
        for (int wild : WILD) {
            denied("fact " + wild, x -> x.fact(wild, 1, 1));
            denied("year " + wild, x -> x.fact(1, wild, 1));
            if (wild != 101) {
                denied("number " + wild, x -> x.fact(1, 1, wild));
            }
        }
        denied("fact 8", x -> x.fact(8, 1, 1));
        denied("number 10000", x -> x.fact(1, 1, 10000));
        TrustDesk x = new TrustDesk();
        for (int i = 0; i < 300; i++) {
            Check.yes("telling " + i, x.fact(0, 0, i));
        }
        Check.no("one more", x.fact(0, 0, 300));
        Check.same("it stays", x.factOf(0, 0, 0), 299);
    }

    private static void factOf() {
        Check.sentence("3: as known on a DAY (0 to the one at hand). NONE: no such ones");
        for (int wild : WILD) {
            refused("fact " + wild, x -> x.factOf(wild, 1, 1));
            refused("year " + wild, x -> x.factOf(1, wild, 1));
            if (wild != 101) {
                refused("day " + wild, x -> x.factOf(1, 1, wild));
            }
        }
        TrustDesk x = rich();
        Check.same("fact 7", x.factOf(7, 100, 724), 0);
        Check.same("fact 8", x.factOf(8, 100, 724), -1);
        Check.same("the day at hand", x.factOf(0, 100, 724), 3);
        Check.same("the day behind it", x.factOf(0, 100, 725), -1);
        Check.same("day 0", x.factOf(0, 100, 0), 3);
        Check.same("day -1", x.factOf(0, 100, -1), -1);
        Check.same("year 0", x.factOf(6, 0, 0), 10);
        Check.same("year -1", x.factOf(6, -1, 0), -1);
        Check.same("year 101", x.factOf(6, 101, 0), -1);
        TrustDesk y = new TrustDesk();
        Check.same("day 1 of a new object", y.factOf(0, 0, 1), -1);
    }

    private static void feed() {
        Check.sentence("4: Twenty bytes come behind the TAPE, of each number the highest first; NONE if these would be"
                + " more than 400");
        TrustDesk x = new TrustDesk();
        Check.same("the first", x.feed(0x6d61726b, 0x20313b20, 0x0a0a0a0a, 0x20202020, 0x6d61726b), 20);
        Check.same("behind it", x.feed(0x20323b20, 0x20202020, 0x20202020, 0x20202020, 0x6d61726b), 40);
        Check.same("and behind that", x.feed(0x20333b20, MIN, MAX, -1, 0), 60);
        Check.same("without the wild ones", x.end(44), 44);
        Check.same("three clauses", x.fund(0, 0), 0);
        Check.same("of three marks", x.fundOf(0, 2), 2 + 4 + 8);
        x.feed(0x80000000, 0, 0, 0, 0);
        Check.same("byte 128", x.fund(0, 0), -2);
        Check.same("at the first", x.place(), 0);
        x.feed(0x6d61726b, 0x20313b00, 0, 0, 0);
        Check.same("byte 0", x.fund(0, 0), -2);
        Check.same("behind the text", x.place(), 7);
        x.feed(0x6d61726b, 0x20313b20, 0x202020ff, 0, 0);
        Check.same("byte 255", x.fund(0, 0), -2);
        Check.same("behind the blanks", x.place(), 11);
        for (int i = 1; i <= 20; i++) {
            Check.same("feed " + i, x.feed(1, 2, 3, 4, 5), 20 * i);
        }
        Check.same("more than 400", x.feed(1, 2, 3, 4, 5), -1);
        Check.same("it stays", x.count(8), 400);
        Check.same("one byte less", x.end(399), 399);
        Check.same("more than 400 all the same", x.feed(1, 2, 3, 4, 5), -1);
        Check.same("it stays so", x.count(8), 399);
        Check.same("381", x.end(381), 381);
        Check.same("401 would be", x.feed(1, 2, 3, 4, 5), -1);
        Check.same("380", x.end(380), 380);
        Check.same("just 400", x.feed(1, 2, 3, 4, 5), 400);
    }

    private static void end() {
        Check.sentence("5: The TAPE has its first n bytes alone: n; NONE if it has less, or n is below 0");
        for (int wild : WILD) {
            refused("end " + wild, x -> x.end(wild));
        }
        refused("one more than it has", x -> x.end(12));
        refused("as many as it has", x -> x.end(11), 11);
        TrustDesk x = new TrustDesk();
        Check.same("none of none", x.end(0), 0);
        Check.same("one of none", x.end(1), -1);
        Check.type(x, "mark 1;mark 2;");
        Check.same("the first seven", x.end(7), 7);
        Check.same("the others are gone", x.end(8), -1);
        Check.same("a fund by these", x.fund(0, 0), 0);
        Check.same("its mark", x.fundOf(0, 2), 2);
        Check.type(x, "mark 3;mark 4;");
        x.end(5);
        x.feed(0x373b2020, 0x20202020, 0x20202020, 0x20202020, 0x20202020);
        Check.same("behind the first five", x.count(8), 25);
        Check.same("a fund by that", x.fund(0, 0), 1);
        Check.same("mark 7", x.fundOf(1, 2), 128);
        Check.type(x, "mark 77;");
        x.end(6);
        Check.same("the second figure is gone", x.fund(0, 0), -2);
        Check.same("so the end is at fault", x.place(), 6);
        Check.type(x, "mark 1;trusty");
        x.end(12);
        Check.same("the last letter is gone", x.fund(0, 0), -2);
        Check.same("so the word is trust, and the end at fault", x.place(), 12);
    }

    private static void act() {
        Check.sentence("6: how many RULES; with a FAULT 1 less than minus its kind (-2 to -5). NONE: no such DAY, 20 were"
                + " told (the TAPE stays)");
        for (int wild : WILD) {
            if (wild != 101) {
                refused("from day " + wild, x -> x.act(wild));
            }
        }
        String[] texts = {"", "keep 1;", "?", "keep 9;", "bar near if a=1;", "keep 1;".repeat(20) + "keep"};
        int[] want = {0, 1, -2, -3, -4, -5};
        for (int i = 0; i < texts.length; i++) {
            TrustDesk x = new TrustDesk();
            Check.same("act " + texts[i], Check.act(x, 36000, texts[i]), want[i]);
            Check.same("the tape is empty", x.count(8), 0);
            Check.same("acts", x.count(3), want[i] < 0 ? 0 : 1);
        }
        TrustDesk y = new TrustDesk();
        for (int i = 0; i < 20; i++) {
            y.act(i);
        }
        Check.type(y, "mark 5;");
        Check.same("20 were told", y.act(0), -1);
        Check.same("the tape stays", y.count(8), 7);
        Check.same("as it was", y.fund(0, 0), 0);
        Check.same("its mark", y.fundOf(0, 2), 32);
    }

    private static void holds() {
        Check.sentence("7: What holds on a DAY by the ACT in force: what 0 to 5. NONE: no such ones");
        for (int wild : WILD) {
            if (wild != 101) {
                refused("day " + wild, x -> x.holds(wild, 0));
            }
            refused("what " + wild, x -> x.holds(0, wild));
        }
        refused("what 6", x -> x.holds(0, 6));
        TrustDesk x = new TrustDesk();
        Check.same("day 0, what 0", x.holds(0, 0), 3);
        Check.same("day 36000, what 5", x.holds(36000, 5), 20);
        Check.same("day 36001", x.holds(36001, 5), -1);
        Check.same("day -1", x.holds(-1, 5), -1);
    }

    private static void fund() {
        Check.sentence("8: its number; with a FAULT as above. NONE: other numbers, twelve are there (the TAPE stays)");
        for (int wild : WILD) {
            if (wild != 101) {
                refused("acres " + wild, x -> x.fund(wild, 0));
            }
            if (wild != 101 && wild != 36001) {
                refused("stock " + wild, x -> x.fund(0, wild));
            }
        }
        refused("acres 1000", x -> x.fund(1000, 0));
        refused("stock 100000", x -> x.fund(0, 100000));
        String[] texts = {"", "mark 1;", "?", "mark 9;", "end a pays a if 1=1;", "mark 1;".repeat(12) + "mark"};
        int[] want = {0, 0, -2, -3, -4, -5};
        for (int i = 0; i < texts.length; i++) {
            TrustDesk x = new TrustDesk();
            Check.same("fund " + texts[i], Check.fund(x, 999, 99999, texts[i]), want[i]);
            Check.same("the tape is empty", x.count(8), 0);
            Check.same("funds", x.count(4), want[i] < 0 ? 0 : 1);
        }
        TrustDesk y = new TrustDesk();
        for (int i = 0; i < 12; i++) {
            y.fund(0, 0);
        }
        Check.type(y, "keep 5;");
        Check.same("twelve are there", y.fund(0, 0), -1);
        Check.same("the tape stays", y.count(8), 7);
        Check.same("as it was", y.act(0), 1);
        Check.same("its rule", y.holds(0, 1), 5);
    }

    private static void near() {
        Check.sentence("9: its number; with a FAULT as above (another clause, or more behind it: 1). NONE: another number,"
                + " twelve are there (the TAPE stays)");
        for (int wild : WILD) {
            if (wild != 101) {
                refused("marks " + wild, x -> x.near(wild));
            }
        }
        refused("marks 256", x -> x.near(256));
        String[] texts = {NEAR, "mark 1;", "trust 1 1;", NEAR + "mark 1;", NEAR + NEAR, "?", "", "end n pays a if 1=1;",
            "end n pays (((((1))))) if 1=1;", "end n pays 12345 if 1=1;"};
        int[] want = {0, -2, -2, -2, -2, -2, -2, -4, -5, -2};
        for (int i = 0; i < texts.length; i++) {
            TrustDesk x = new TrustDesk();
            Check.same("near " + texts[i], Check.near(x, 255, texts[i]), want[i]);
            Check.same("the tape is empty", x.count(8), 0);
            Check.same("near ends", x.count(5), want[i] < 0 ? 0 : 1);
        }
        TrustDesk y = new TrustDesk();
        for (int i = 0; i < 12; i++) {
            Check.near(y, 0, NEAR);
        }
        Check.type(y, "keep 5;");
        Check.same("twelve are there", y.near(0), -1);
        Check.same("the tape stays", y.count(8), 7);
        Check.same("as it was", y.act(0), 1);
    }

    private static void place() {
        Check.sentence("10: The place of the FAULT of the latest text that was read; NONE without one");
        TrustDesk x = new TrustDesk();
        Check.same("no text yet", x.place(), -1);
        Check.fund(x, 0, 0, "mark 1;?");
        Check.same("a fault", x.place(), 7);
        Check.same("asked again", x.place(), 7);
        Check.type(x, "keep 1;");
        Check.same("fed, not read", x.place(), 7);
        x.fund(1000, 0);
        x.act(-1);
        x.near(256);
        Check.same("refused, not read", x.place(), 7);
        Check.same("read", x.act(0), 1);
        Check.same("without a fault", x.place(), -1);
        Check.act(x, 0, "?");
        Check.same("at the first byte", x.place(), 0);
        Check.near(x, 0, NEAR);
        Check.same("without a fault in a near end", x.place(), -1);
        Check.near(x, 0, NEAR + "?");
        Check.same("behind it", x.place(), 20);
        Check.fund(x, 0, 0, "");
        Check.same("an empty text is one without", x.place(), -1);
    }

    private static void days() {
        Check.sentence("11: So many DAYS (1 to 720) go by. NONE: another n, it would be above 36000");
        for (int wild : WILD) {
            if (wild != 101) {
                refused("days " + wild, x -> x.days(wild));
            }
        }
        refused("no days", x -> x.days(0));
        refused("721 days", x -> x.days(721));
        TrustDesk x = new TrustDesk();
        Check.fund(x, 0, 1, "");
        Check.same("one", x.days(1), 1);
        Check.same("the most", x.days(720), 721);
        for (int i = 0; i < 48; i++) {
            x.days(720);
        }
        x.days(700);
        Check.same("near the last", x.count(0), 35981);
        Check.same("twenty are too many", x.days(20), -1);
        Check.same("720 too", x.days(720), -1);
        Check.same("no year closed by that", x.coin(0), 99);
        Check.same("nineteen", x.days(19), 36000);
        Check.same("a year closed", x.coin(0), 100);
        Check.same("one is too many", x.days(1), -1);
        Check.same("MAX", x.days(MAX), -1);
    }

    private static void trustee() {
        Check.sentence("12: False: no such ones, JOINED, is one, there are as many as may be");
        for (int wild : WILD) {
            denied("fund " + wild, x -> x.trustee(wild, 1));
            denied("person " + wild, x -> x.trustee(0, wild));
        }
        denied("fund 4", x -> x.trustee(4, 1));
        denied("person 100", x -> x.trustee(0, 100));
        denied("joined", x -> x.trustee(1, 1));
        denied("is one", x -> x.trustee(0, 0));
        TrustDesk x = rich();
        Check.yes("a second", x.trustee(0, 99));
        Check.yes("a third", x.trustee(0, 1));
        Check.no("as many as may be", x.trustee(0, 2));
        Check.same("three", x.fundOf(0, 7), 3);
    }

    private static void propose() {
        Check.sentence("13: with x: a NEAR END, the other FUND, ACRES (1 to 999), an END. NONE: no such FUND, kind, x"
                + " (an END: 0 or more), 40 are there");
        for (int wild : WILD) {
            refused("kind " + wild, x -> x.propose(wild, 0, 1));
            for (int kind = 0; kind < 4; kind++) {
                int some = kind;
                refused("fund " + wild + " of kind " + kind, x -> x.propose(some, wild, 1));
                if (kind < 2 || kind == 2 && wild != 101 || wild < 0) {
                    refused("x " + wild + " of kind " + kind, x -> x.propose(some, 0, wild));
                }
            }
        }
        refused("kind 4", x -> x.propose(4, 0, 1));
        refused("fund 4", x -> x.propose(3, 4, 1));
        refused("near end 2", x -> x.propose(0, 0, 2));
        refused("other fund 4", x -> x.propose(1, 0, 4));
        refused("acres 0", x -> x.propose(2, 0, 0));
        refused("acres 1000", x -> x.propose(2, 0, 1000));
        TrustDesk x = rich();
        int[][] good = {{0, 0, 0}, {0, 3, 1}, {1, 0, 0}, {1, 0, 3}, {1, 1, 0}, {2, 0, 1}, {2, 1, 999}, {3, 0, 0},
            {3, 0, MAX}, {3, 1, 12}};
        for (int i = 0; i < good.length; i++) {
            Check.same("good " + i, x.propose(good[i][0], good[i][1], good[i][2]), 6 + i);
        }
        for (int i = 16; i < 40; i++) {
            Check.same("scheme " + i, x.propose(3, 0, 0), i);
        }
        Check.same("40 are there", x.propose(3, 0, 0), -1);
    }

    private static void objects() {
        Check.sentence("14: False: no such ones, it isn't OPEN, too late, did so already, ten did");
        for (int wild : WILD) {
            denied("scheme " + wild, x -> x.objects(wild, 1));
            denied("person " + wild, x -> x.objects(5, wild));
        }
        denied("scheme 6", x -> x.objects(6, 1));
        denied("person 100", x -> x.objects(5, 100));
        denied("a made one", x -> x.objects(0, 1));
        denied("a failed one", x -> x.objects(2, 1));
        denied("too late", x -> x.objects(3, 1));
        denied("did so already", x -> x.objects(5, 7));
        TrustDesk x = rich();
        for (int person = 90; person < 99; person++) {
            Check.yes("nine more", x.objects(5, person));
        }
        Check.no("ten did", x.objects(5, 99));
        Check.same("ten", x.scheme(5, 7), 10);
    }

    private static void withdraws() {
        Check.sentence("15: An OBJECTION is taken back. False: there is none, the SCHEME isn't OPEN");
        for (int wild : WILD) {
            denied("scheme " + wild, x -> x.withdraws(wild, 7));
            denied("person " + wild, x -> x.withdraws(5, wild));
        }
        denied("scheme 6", x -> x.withdraws(6, 7));
        denied("another person", x -> x.withdraws(5, 8));
        denied("person 100", x -> x.withdraws(5, 100));
        denied("another scheme", x -> x.withdraws(3, 7));
        denied("a made one", x -> x.withdraws(0, 7));
        TrustDesk x = rich();
        x.days(31);
        Check.same("failed", x.settle(5), 5);
        Check.no("not open", x.withdraws(5, 7));
        Check.same("it stands", x.scheme(5, 7), 1);
        TrustDesk y = rich();
        Check.yes("taken back", y.withdraws(5, 7));
        Check.no("there is none", y.withdraws(5, 7));
        Check.same("none stands", y.scheme(5, 7), 0);
    }

    private static void vote() {
        Check.sentence("16: False: no such ones, no TRUSTEE of the FUND (of JOIN: of one of both)");
        for (int wild : WILD) {
            for (int yes = 0; yes < 2; yes++) {
                boolean said = yes == 1;
                denied("scheme " + wild, x -> x.vote(wild, 0, said));
                denied("person " + wild, x -> x.vote(5, wild, said));
            }
        }
        denied("scheme 6", x -> x.vote(6, 0, true));
        denied("person 100", x -> x.vote(5, 100, true));
        denied("no trustee", x -> x.vote(5, 1, true));
        denied("a made one", x -> x.vote(0, 0, false));
        denied("a failed one", x -> x.vote(2, 0, false));
        TrustDesk x = rich();
        x.trustee(3, 40);
        x.trustee(0, 41);
        Check.no("a trustee of another fund", x.vote(5, 40, true));
        int join = x.propose(1, 0, 3);
        Check.yes("of the other one of a join", x.vote(join, 40, true));
        Check.yes("of the fund", x.vote(join, 41, false));
        Check.same("one yes", x.scheme(join, 8), 1);
        Check.same("one no", x.scheme(join, 9), 1);
    }

    private static void settle() {
        Check.sentence("17: 0 it is MADE, 1 to 5 what it FAILED by. NONE: no such one, it isn't OPEN, or it is too early");
        for (int wild : WILD) {
            refused("scheme " + wild, x -> x.settle(wild));
        }
        refused("scheme 6", x -> x.settle(6));
        refused("a made one", x -> x.settle(0));
        refused("a failed one", x -> x.settle(2));
        refused("too early", x -> x.settle(5));
        TrustDesk x = rich();
        Check.same("votes are wanting", x.settle(3), 4);
        x.days(30);
        Check.same("on the last day", x.settle(5), -1);
        x.days(1);
        x.withdraws(5, 7);
        Check.same("behind it", x.settle(5), 0);
        Check.same("no acres of the joined one", Check.carried(x, 2, 1, 1), -1);
        x.days(29);
        Check.same("it cannot be", x.settle(6), 1);
    }

    private static void scheme() {
        Check.sentence("18: Of a SCHEME what 0 to 9. NONE for others");
        for (int wild : WILD) {
            refused("scheme " + wild, x -> x.scheme(wild, 0));
            refused("what " + wild, x -> x.scheme(5, wild));
        }
        refused("scheme 6", x -> x.scheme(6, 0));
        refused("what 10", x -> x.scheme(5, 10));
        int[][] want = {
            {3, 0, 2, 0, 1, 1, 0, 0, 1, 0},
            {1, 1, 2, 2, 3, 1, 0, 0, 1, 0},
            {2, 0, 8, 720, 721, 2, 1, 0, 1, 0},
            {2, 0, 1, 722, 723, 0, 0, 0, 0, 0},
            {2, 3, 1, 722, 723, 0, 0, 0, 0, 0},
            {2, 0, 2, 724, 754, 0, 0, 1, 1, 0}};
        TrustDesk x = rich();
        for (int scheme = 0; scheme < 6; scheme++) {
            for (int what = 0; what < 10; what++) {
                Check.same("scheme " + scheme + " what " + what, x.scheme(scheme, what), want[scheme][what]);
            }
        }
    }

    private static void fundOf() {
        Check.sentence("19: Of a FUND what 0 to 9. NoSuchElementException: no such FUND, what");
        for (int wild : WILD) {
            Check.throwsNoSuch("fund " + wild, rich(), wild, 0);
            Check.throwsNoSuch("what " + wild, rich(), 0, wild);
            Check.throwsNoSuch("both " + wild, rich(), wild, wild);
        }
        Check.throwsNoSuch("fund 4", rich(), 4, 0);
        Check.throwsNoSuch("what 10", rich(), 0, 10);
        Check.throwsNoSuch("of no funds", new TrustDesk(), 0, 0);
        refused("thrown", x -> {
            try {
                return x.fundOf(4, 0);
            } catch (NoSuchElementException none) {
                return -77;
            }
        }, -77);
        int[][] want = {
            {7, 50, 6, 3, 1, 1, -1, 1, 3, 1},
            {0, 0, 2, 0, 0, 0, 2, 0, 7, 1},
            {4, 60, 2, 1, 1, 0, -1, 1, 7, 1},
            {2, 30, 0, 0, 0, 0, -1, 1, 7, 1}};
        TrustDesk x = rich();
        for (int fund = 0; fund < 4; fund++) {
            for (int what = 0; what < 10; what++) {
                Check.same("fund " + fund + " what " + what, x.fundOf(fund, what), want[fund][what]);
            }
        }
    }

    private static void coin() {
        Check.sentence("20: COIN of a FUND. NONE: no such one");
        for (int wild : WILD) {
            refused("fund " + wild, x -> x.coin(wild));
        }
        refused("fund 4", x -> x.coin(4));
        TrustDesk x = rich();
        Check.same("fund 0", x.coin(0), 111 + 5 + 120 - 9);
        Check.same("the joined one", x.coin(1), 0);
        Check.same("fund 2", x.coin(2), 100 + 5 + 100 - 3);
        Check.same("fund 3", x.coin(3), 50 + 2 + 50);
    }

    private static void income() {
        Check.sentence("21: INCOME of a FUND in a YEAR as known on a DAY. NONE: no such ones");
        for (int wild : WILD) {
            refused("fund " + wild, x -> x.income(wild, 0, 0));
            refused("year " + wild, x -> x.income(0, wild, 0));
            if (wild != 101) {
                refused("day " + wild, x -> x.income(0, 0, wild));
            }
        }
        refused("fund 4", x -> x.income(4, 0, 0));
        refused("the day behind the one at hand", x -> x.income(0, 0, 725));
        TrustDesk x = rich();
        Check.same("day 0", x.income(0, 0, 0), 120);
        Check.same("year 100, the day at hand", x.income(0, 100, 724), 120);
        Check.same("the joined one", x.income(1, 0, 724), 0);
    }

    private static void part() {
        Check.sentence("22: PART of a FOUNDER in a FUND. NONE: no such ones");
        for (int wild : WILD) {
            refused("fund " + wild, x -> x.part(wild, 0));
            refused("founder " + wild, x -> x.part(0, wild));
        }
        refused("fund 4", x -> x.part(4, 0));
        refused("founder 4", x -> x.part(0, 4));
        refused("founder 11", x -> x.part(0, 11));
        refused("founder 12", x -> x.part(0, 12));
        TrustDesk x = rich();
        int[][] want = {{1000000, 0, 0, 0}, {0, 1000000, 0, 0}, {0, 500000, 500000, 0}, {0, 0, 0, 1000000}};
        for (int fund = 0; fund < 4; fund++) {
            for (int founder = 0; founder < 4; founder++) {
                Check.same("part " + fund + " " + founder, x.part(fund, founder), want[fund][founder]);
            }
        }
    }

    private static void paid() {
        Check.sentence("23: What was led back to a FOUNDER in all. NONE: no such one");
        for (int wild : WILD) {
            refused("founder " + wild, x -> x.paid(wild));
        }
        refused("founder 4", x -> x.paid(4));
        TrustDesk x = rich();
        long[] want = {18, 2, 1, 0};
        for (int founder = 0; founder < 4; founder++) {
            Check.same("founder " + founder, x.paid(founder), want[founder]);
        }
    }

    private static void endOf() {
        Check.sentence("24: Of an END of a FUND what 0 to 3. NONE for others");
        for (int wild : WILD) {
            refused("fund " + wild, x -> x.endOf(wild, 0, 0));
            refused("end " + wild, x -> x.endOf(0, wild, 0));
            refused("what " + wild, x -> x.endOf(0, 0, wild));
        }
        refused("fund 4", x -> x.endOf(4, 0, 0));
        refused("end 3", x -> x.endOf(0, 3, 0));
        refused("end 0 of none", x -> x.endOf(3, 0, 0));
        refused("what 4", x -> x.endOf(0, 0, 4));
        int[][] want = {{0, 0, -1, 1}, {1, 2, 1, 2}, {2, 0, -1, 1}};
        TrustDesk x = rich();
        for (int end = 0; end < 3; end++) {
            for (int what = 0; what < 4; what++) {
                Check.same("end " + end + " what " + what, x.endOf(0, end, what), want[end][what]);
            }
        }
    }

    private static void due() {
        Check.sentence("25: what it asks; -2: it isn't. NONE: no such ones");
        for (int wild : WILD) {
            refused("fund " + wild, x -> x.due(wild, 0, 0, 0));
            refused("end " + wild, x -> x.due(0, wild, 0, 0));
            refused("year " + wild, x -> x.due(0, 0, wild, 0));
            if (wild != 101) {
                refused("day " + wild, x -> x.due(0, 0, 0, wild));
            }
        }
        refused("fund 4", x -> x.due(4, 0, 0, 0));
        refused("end 3", x -> x.due(0, 3, 0, 0));
        refused("the day behind the one at hand", x -> x.due(0, 0, 0, 725));
        TrustDesk x = rich();
        Check.same("it is", x.due(0, 0, 100, 724), 9);
        Check.same("it isn't", x.due(0, 1, 0, 0), -2);
        Check.same("in year 0", x.due(2, 0, 0, 724), -2);
        Check.same("in year 1", x.due(2, 0, 1, 0), 3);
        TrustDesk y = new TrustDesk();
        Check.fund(y, 0, 0, "end a pays 0-9 if 1=1;");
        Check.same("it asks nothing", y.due(0, 0, 0, 0), 0);
    }

    private static void why() {
        Check.sentence("26: the number of a comparison. NONE: all hold, no such ones");
        for (int wild : WILD) {
            refused("fund " + wild, x -> x.why(wild, 1, 0, 0));
            refused("end " + wild, x -> x.why(0, wild, 0, 0));
            refused("year " + wild, x -> x.why(0, 1, wild, 0));
            if (wild != 101) {
                refused("day " + wild, x -> x.why(0, 1, 0, wild));
            }
        }
        refused("fund 4", x -> x.why(4, 0, 0, 0));
        refused("end 3", x -> x.why(0, 3, 0, 0));
        refused("the day behind the one at hand", x -> x.why(0, 1, 0, 725));
        refused("all hold", x -> x.why(0, 0, 0, 0));
        refused("the first doesn't", x -> x.why(0, 1, 100, 724), 0);
    }

    private static void entry() {
        Check.sentence("27: Of ENTRY k what 0 to 3. NONE for others");
        for (int wild : WILD) {
            refused("entry " + wild, x -> x.entry(wild, 0));
            refused("what " + wild, x -> x.entry(0, wild));
        }
        refused("what 4", x -> x.entry(0, 4));
        TrustDesk x = rich();
        int[][] want = {{0, 0, 0, 9}, {1, 0, 0, 9}, {1, 2, 0, 3}};
        for (int k = 0; k < 3; k++) {
            for (int what = 0; what < 4; what++) {
                Check.same("entry " + k + " what " + what, x.entry(k, what), want[k][what]);
            }
        }
        Check.same("entry 3", x.entry(3, 0), -1);
        Check.same("of no entries", new TrustDesk().entry(0, 0), -1);
    }

    private static void nearest() {
        Check.sentence("28: THE NEAREST for a FUND. NONE: there is none, no such FUND, it is JOINED");
        for (int wild : WILD) {
            refused("fund " + wild, x -> x.nearest(wild));
        }
        refused("fund 4", x -> x.nearest(4));
        refused("joined", x -> x.nearest(1));
        refused("none with a mark", x -> x.nearest(3));
        refused("one with two", x -> x.nearest(0), 0);
    }

    private static void marks() {
        Check.sentence("29: How many MARKS a FUND has that a NEAR END has (what 0 kept, 1 lost). NONE: no such ones");
        for (int wild : WILD) {
            refused("fund " + wild, x -> x.marks(wild, 0, 0));
            refused("near end " + wild, x -> x.marks(0, wild, 0));
            refused("what " + wild, x -> x.marks(0, 0, wild));
        }
        refused("fund 4", x -> x.marks(4, 0, 0));
        refused("near end 2", x -> x.marks(0, 2, 0));
        refused("what 2", x -> x.marks(0, 0, 2));
        TrustDesk x = rich();
        int[][] kept = {{2, 0}, {1, 0}, {1, 0}, {0, 0}};
        int[][] lost = {{0, 2}, {0, 1}, {0, 1}, {0, 0}};
        for (int fund = 0; fund < 4; fund++) {
            for (int near = 0; near < 2; near++) {
                Check.same("kept " + fund + " " + near, x.marks(fund, near, 0), kept[fund][near]);
                Check.same("lost " + fund + " " + near, x.marks(fund, near, 1), lost[fund][near]);
            }
        }
    }

    private static void group() {
        Check.sentence("30: IDLE of the best. NONE: none, more than eight, no such ones, JOINED ones");
        int[] bad = {0, 2, 3, 15, 16, 17, 1 << 12, 1 << 30, MIN, -1, MAX, MIN + 1};
        for (int bits : bad) {
            refused("group " + bits, x -> x.group(bits));
        }
        TrustDesk x = rich();
        Check.same("fund 0", x.group(1), 120 - 9);
        Check.same("three", x.group(13), 120 - 9 + 100 - 3 + 50);
    }

    private static void grouped() {
        Check.sentence("31: The GROUP of a FUND by it. NONE likewise, or it isn't among them");
        for (int wild : WILD) {
            refused("fund " + wild, x -> x.grouped(13, wild));
        }
        int[] bad = {0, 2, 3, 15, 16, 17, 1 << 12, 1 << 30, MIN, -1, MAX, MIN + 1};
        for (int bits : bad) {
            refused("grouped " + bits, x -> x.grouped(bits, 0));
        }
        refused("not among them", x -> x.grouped(12, 0));
        refused("a joined one, not among them", x -> x.grouped(13, 1));
        refused("fund 4", x -> x.grouped(13, 4));
        refused("fund 32", x -> x.grouped(13, 32));
        refused("fund 35", x -> x.grouped(13, 35));
        TrustDesk x = rich();
        Check.same("fund 0", x.grouped(13, 0), 0);
        Check.same("fund 2", x.grouped(13, 2), 0);
        Check.same("fund 3", x.grouped(13, 3), 1);
        Check.same("fund 3 alone", x.grouped(8, 3), 0);
    }

    private static void lay() {
        Check.sentence("32: A GROUP is told for a FUND (0 to 7; 0 at first). False: other numbers, no such one");
        for (int wild : WILD) {
            denied("fund " + wild, x -> x.lay(wild, 1));
            denied("group " + wild, x -> x.lay(0, wild));
        }
        denied("fund 4", x -> x.lay(4, 1));
        denied("group 8", x -> x.lay(0, 8));
        TrustDesk x = rich();
        Check.same("0 at first", x.judge(9), -2);
        Check.yes("7", x.lay(3, 7));
        Check.same("apart", x.judge(9), 120 - 9 + 50);
        Check.yes("0", x.lay(3, 0));
        Check.same("together", x.judge(9), -2);
    }

    private static void judge() {
        Check.sentence("33: JUDGED: IDLE; -2: it can't be. NONE as group()");
        int[] bad = {0, 2, 3, 15, 16, 17, 1 << 12, 1 << 30, MIN, -1, MAX, MIN + 1};
        for (int bits : bad) {
            refused("judge " + bits, x -> x.judge(bits));
        }
        refused("it can't be", x -> x.judge(9), -2);
        refused("it can", x -> x.judge(5), 120 - 9 + 100 - 3);
    }

    private static void account() {
        Check.sentence("34: DAYS late (0: in time). NONE: no such ones, it isn't closed, they were given, 200 were given");
        for (int wild : WILD) {
            refused("fund " + wild, x -> x.account(wild, 1));
            refused("year " + wild, x -> x.account(0, wild));
        }
        refused("fund 4", x -> x.account(4, 1));
        refused("not closed", x -> x.account(0, 2));
        refused("given", x -> x.account(0, 0));
        TrustDesk x = rich();
        Check.same("in time", x.account(0, 1), 0);
        Check.same("late", x.account(3, 0), 724 - 359 - 90);
        Check.same("of the joined one", x.account(1, 0), 724 - 359 - 90);
        TrustDesk y = new TrustDesk();
        y.fund(0, 0);
        Check.spans(y, 50);
        Check.same("year 100 never closes", y.account(0, 100), -1);
        Check.same("year 99", y.account(0, 99), 0);
    }

    private static void count() {
        Check.sentence("35: what 0 to 11. NONE for others");
        for (int wild : WILD) {
            refused("what " + wild, x -> x.count(wild));
        }
        refused("what 12", x -> x.count(12));
        int[] want = {724, 2, 2, 2, 4, 2, 6, 3, 11, 1, 2, 3};
        TrustDesk x = rich();
        for (int what = 0; what < 12; what++) {
            Check.same("what " + what, x.count(what), want[what]);
        }
    }
}
