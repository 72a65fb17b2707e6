import java.util.NoSuchElementException;
import java.util.Random;

/** Long runs of calls on TrustDesk and on the model, which must answer alike; the runs are the same each time. */
public final class RandomRunsTest {
    private static final int CALLS = 512;
    private static final int[] ODD = {-1, 0, 1, 7, 8, 12, 13, 31, 32, 100, 101, 255, 256, 360, 400, 720, 721, 999,
        1000, 9999, 10000, 36000, 36001, 99999, 100000, Integer.MAX_VALUE, Integer.MIN_VALUE, -2, 1 << 30};

    private final Random random;
    private final int wildness;
    private final TrustDesk desk = new TrustDesk();
    private final Model model = new Model();
    private final StringBuilder story = new StringBuilder();
    private final Texts texts;
    private int calls = 0;
    private boolean good = true;

    private RandomRunsTest(long seed) {
        random = new Random(seed);
        wildness = new int[] {0, 5, 60}[random.nextInt(3)];
        texts = new Texts(random);
    }

    public static void main(String[] args) {
        int runs = args.length > 0 ? Integer.parseInt(args[0]) : 600;
        int wrong = 0;
        long[] seen = new long[40];
        for (int seed = 0; seed < runs; seed++) {
            RandomRunsTest run = new RandomRunsTest(seed);
            if (!run.go(seen)) {
                wrong++;
                System.out.println("run " + seed + ":\n" + run.story);
                if (wrong == 3) {
                    break;
                }
            }
        }
        if (args.length > 0) {
            for (int i = 0; i < seen.length; i++) {
                System.out.println("seen " + i + ": " + seen[i]);
            }
        }
        System.out.println(runs + " runs, " + wrong + " wrong");
        if (wrong != 0) {
            System.exit(1);
        }
    }

    private boolean go(long[] seen) {
        while (good && calls < CALLS) {
            step();
        }
        for (int i = 0; i < model.count(6); i++) {
            seen[model.schemes.get(i).state == 0 ? 0 : 1 + model.schemes.get(i).kind * 6
                    + model.schemes.get(i).failed]++;
        }
        seen[26] += model.count(7);
        seen[27] += model.count(4);
        seen[28] += model.count(0);
        seen[29] += model.count(11);
        return good;
    }

    private void same(String call, long got, long want) {
        calls++;
        story.append(call).append(" -> ").append(want).append('\n');
        if (got != want) {
            good = false;
            story.append("  but TrustDesk answered ").append(got).append('\n');
        }
    }

    private static long n(boolean b) {
        return b ? 1 : 0;
    }

    private int to(int bound) {
        if (random.nextInt(1000) < wildness) {
            return ODD[random.nextInt(ODD.length)];
        }
        return random.nextInt(Math.max(1, bound));
    }

    private int fund() {
        return to(model.count(4) + (random.nextInt(20) == 0 ? 1 : 0));
    }

    private int scheme() {
        int all = model.count(6);
        return random.nextInt(3) > 0 ? Math.max(0, all - 1 - to(6)) : to(all);
    }

    private int year() {
        return random.nextInt(4) == 0 ? to(101) : Math.max(0, model.count(1) + 1 - to(4));
    }

    private int known() {
        return random.nextInt(2) == 0 ? model.count(0) : to(model.count(0) + 1);
    }

    private int person() {
        return random.nextInt(3) == 0 ? to(100) : to(6);
    }

    private void type(String text) {
        for (int i = 0; i < text.length(); i += 20) {
            int[] five = new int[5];
            for (int k = 0; k < 20; k++) {
                int b = i + k < text.length() ? text.charAt(i + k) : random.nextInt(256);
                five[k / 4] |= b << 24 - k % 4 * 8;
            }
            same("feed", desk.feed(five[0], five[1], five[2], five[3], five[4]), model.feed(five));
        }
        same("end of '" + text + "'", desk.end(text.length()), model.end(text.length()));
        if (random.nextInt(200) < wildness) {
            int n = to(400);
            same("end(" + n + ")", desk.end(n), model.end(n));
        }
    }

    private void read() {
        int sort = random.nextInt(3);
        if (sort == 0) {
            int from = random.nextInt(2) == 0 ? model.count(0) : to(36001);
            type(texts.act());
            same("act(" + from + ")", desk.act(from), model.act(from));
        } else if (sort == 1) {
            int acres = random.nextInt(3) == 0 ? 0 : to(1000);
            int stock = random.nextInt(3) == 0 ? to(100000) : to(50);
            type(texts.deed());
            same("fund(" + acres + "," + stock + ")", desk.fund(acres, stock), model.fund(acres, stock));
        } else {
            int marks = to(256);
            type(texts.near());
            same("near(" + marks + ")", desk.near(marks), model.near(marks));
        }
        same("place", desk.place(), model.place);
    }

    private void step() {
        int a = fund();
        int b = scheme();
        int c = person();
        int what = random.nextInt(100);
        if (what < 8 && calls < 300 || calls < 60) {
            read();
            fact();
        } else if (what < 14) {
            fact();
        } else if (what < 22) {
            int days = random.nextInt(3) > 0 ? 1 + to(60) : random.nextInt(5) == 0 ? 720 : to(722);
            same("days " + days, desk.days(days), model.days(days));
        } else if (what < 30) {
            same("trustee", n(desk.trustee(a, c)), n(model.trustee(a, c)));
        } else if (what < 38) {
            propose(a);
        } else if (what < 42) {
            same("objects", n(desk.objects(b, c)), n(model.objects(b, c)));
        } else if (what < 44) {
            same("withdraws", n(desk.withdraws(b, c)), n(model.withdraws(b, c)));
        } else if (what < 54) {
            boolean yes = random.nextInt(6) > 0;
            same("vote", n(desk.vote(b, c, yes)), n(model.vote(b, c, yes)));
        } else if (what < 64) {
            same("settle " + b, desk.settle(b), model.settle(b));
        } else if (what < 72) {
            groups(a);
        } else {
            look(what, a, b, c);
        }
    }

    private void fact() {
        int which = random.nextInt(3) == 0 ? 6 : to(8);
        int year = year();
        int v = random.nextInt(2) == 0 ? to(4) : to(10000);
        same("fact(" + which + "," + year + "," + v + ")", n(desk.fact(which, year, v)),
                n(model.fact(which, year, v)));
    }

    private void propose(int a) {
        int kind = to(4);
        int x = kind == 0 ? to(model.count(5)) : kind == 1 ? fund() : kind == 2 ? to(30) : to(7);
        same("propose(" + kind + "," + a + "," + x + ")", desk.propose(kind, a, x), model.propose(kind, a, x));
        int made = model.count(6) - 1;
        if (made >= 0 && random.nextInt(3) > 0) {
            for (int p = 0; p < 5; p++) {
                same("vote(" + made + "," + p + ")", n(desk.vote(made, p, true)), n(model.vote(made, p, true)));
            }
        }
    }

    private void groups(int a) {
        int bits = random.nextInt(4) == 0 ? random.nextInt(1 << 12) : 0;
        for (int i = 0; i < model.count(4); i++) {
            if (model.funds.get(i).joinedTo == null && random.nextInt(3) > 0 && Integer.bitCount(bits) < 8) {
                bits |= 1 << i;
            }
        }
        if (random.nextInt(1000) < wildness) {
            bits = random.nextInt();
        }
        int group = random.nextInt(2) == 0 ? to(2) : to(8);
        switch (random.nextInt(4)) {
            case 0 -> same("group " + bits, desk.group(bits), model.group(bits));
            case 1 -> same("grouped " + bits, desk.grouped(bits, a), model.grouped(bits, a));
            case 2 -> same("lay", n(desk.lay(a, group)), n(model.lay(a, group)));
            default -> same("judge " + bits, desk.judge(bits), model.judge(bits));
        }
    }

    private void look(int what, int a, int b, int c) {
        int end = to(8);
        int year = year();
        int known = known();
        int k = to(12);
        switch (what) {
            case 72, 73 -> same("factOf", desk.factOf(c, year, known), model.factOf(c, year, known));
            case 74 -> same("holds", desk.holds(known, k), model.holds(known, k));
            case 75, 76 -> same("scheme", desk.scheme(b, k), model.scheme(b, k));
            case 77, 78, 79 -> same("fundOf " + a + " " + k, fundOf(desk, null, a, k), fundOf(null, model, a, k));
            case 80, 81 -> same("coin " + a, desk.coin(a), model.coin(a));
            case 82 -> same("income", desk.income(a, year, known), model.income(a, year, known));
            case 83, 84 -> same("part", desk.part(a, k), model.part(a, k));
            case 85, 86 -> same("paid", desk.paid(a), model.paid(a));
            case 87, 88 -> same("endOf " + a + " " + end, desk.endOf(a, end, k % 5), model.endOf(a, end, k % 5));
            case 89, 90 -> same("due", desk.due(a, end, year, known), model.due(a, end, year, known));
            case 91, 92 -> same("why", desk.why(a, end, year, known), model.why(a, end, year, known));
            case 93, 94 -> {
                int entry = to(model.count(7) + 1);
                same("entry", desk.entry(entry, k % 5), model.entry(entry, k % 5));
            }
            case 95 -> same("nearest", desk.nearest(a), model.nearest(a));
            case 96 -> same("marks", desk.marks(a, k, end % 3), model.marks(a, k, end % 3));
            case 97 -> {
                int closed = to(model.count(1) + 1);
                same("account", desk.account(a, closed), model.account(a, closed));
            }
            default -> same("count " + k, desk.count(k), model.count(k));
        }
    }

    private static long fundOf(TrustDesk desk, Model model, int fund, int what) {
        try {
            return desk != null ? desk.fundOf(fund, what) : model.fundOf(fund, what);
        } catch (NoSuchElementException none) {
            return -77;
        }
    }

    /** Makes up texts, most of them without a fault. */
    private static final class Texts {
        private final Random random;
        private int brackets;

        Texts(Random random) {
            this.random = random;
        }

        private String pick(String... some) {
            return some[random.nextInt(some.length)];
        }

        private String number() {
            return "" + (random.nextInt(4) == 0 ? random.nextInt(10000) : random.nextInt(4));
        }

        private String factor(boolean act) {
            int sort = random.nextInt(10);
            if (sort < 4) {
                return number();
            }
            if (sort == 9 && brackets < (random.nextInt(50) == 0 ? 5 : 4)) {
                brackets++;
                String inner = "(" + sum(act) + ")";
                brackets--;
                return inner;
            }
            if (act && random.nextInt(2) == 0) {
                return pick("living", "dead", "marks");
            }
            return pick("poor", "maids", "boys", "sick", "bread", "coal", "rent", "lake", "income", "coin");
        }

        private String sum(boolean act) {
            StringBuilder text = new StringBuilder(factor(act));
            while (random.nextInt(5) == 0) {
                text.append(pick("+", "-", "*", " * ", "-", " + ")).append(factor(act));
            }
            return text.toString();
        }

        private String cond(boolean act) {
            StringBuilder text = new StringBuilder(part(act));
            while (random.nextInt(4) == 0) {
                text.append(pick(" and ", " or ")).append(part(act));
            }
            return text.toString();
        }

        private String part(boolean act) {
            if (random.nextInt(6) == 0) {
                return "not " + part(act);
            }
            if (random.nextInt(8) == 0 && brackets < (random.nextInt(50) == 0 ? 5 : 4)) {
                brackets++;
                String inner = "[" + cond(act) + "]";
                brackets--;
                return inner;
            }
            if (random.nextInt(4) == 0) {
                return pick("1=1", "1=2", "poor=0", "maids=0", "boys>0", "coin>0");
            }
            return sum(act) + pick("<", ">", "=", "<", ">") + sum(act);
        }

        private String end(String name) {
            String text = "end " + name + " pays " + sum(false) + " if " + cond(false);
            return text + pick("", "", " part") + ";";
        }

        String deed() {
            StringBuilder text = new StringBuilder();
            if (random.nextInt(8) > 0) {
                text.append("mark ").append(random.nextInt(3));
                while (random.nextInt(5) > 0) {
                    text.append(" ").append(random.nextInt(8));
                }
                text.append(";");
            }
            int ends = random.nextInt(6) + random.nextInt(40) / 38;
            for (int i = 0; i < ends && text.length() < 300; i++) {
                text.append(end("" + (char) ('a' + i) + pick("", "b", "cde")));
            }
            if (random.nextInt(2) == 0) {
                int most = 1 + random.nextInt(7);
                text.append("trust ").append(most).append(" ").append(1 + random.nextInt(Math.min(most, 3))).append(";");
            }
            if (random.nextInt(30) == 0) {
                text.append("mark 1;".repeat(random.nextInt(13)));
            }
            return spoilt(text.toString());
        }

        String act() {
            StringBuilder text = new StringBuilder();
            int rules = random.nextInt(6);
            for (int i = 0; i < rules && text.length() < 300; i++) {
                switch (random.nextInt(8)) {
                    case 0 -> text.append("fail ").append(1 + random.nextInt(5)).append(";");
                    case 1 -> text.append("keep ").append(random.nextInt(4)).append(";");
                    case 2, 3 -> text.append("days ").append(1 + random.nextInt(20)).append(";");
                    case 4 -> text.append("late ").append(1 + random.nextInt(300)).append(";");
                    case 5 -> text.append("gain ").append(random.nextInt(21)).append(";");
                    case 6 -> text.append("sell ").append(1 + random.nextInt(40)).append(";");
                    default -> text.append("bar ").append(pick("near", "join", "sale", "strike")).append(" if ")
                            .append(cond(true)).append(";");
                }
            }
            if (random.nextInt(30) == 0) {
                text.append("keep 1;".repeat(13 + random.nextInt(9)));
            }
            return spoilt(text.toString());
        }

        String near() {
            return spoilt(end(pick("n", "nearend", "eightlet", "pays", "if")));
        }

        private String spoilt(String text) {
            StringBuilder made = new StringBuilder(text);
            if (random.nextInt(4) == 0) {
                int times = 1 + random.nextInt(2);
                for (int i = 0; i < times; i++) {
                    int at = random.nextInt(made.length() + 1);
                    switch (random.nextInt(4)) {
                        case 0 -> made.insert(at, (char) random.nextInt(256));
                        case 1 -> made.insert(at, pick(" ", "\n", "and", "[", "(", "9", "end ", ";", "x", "part", "8 "));
                        case 2 -> made.setLength(at);
                        default -> {
                            if (at < made.length()) {
                                made.deleteCharAt(at);
                            }
                        }
                    }
                }
            }
            if (made.length() > 400) {
                made.setLength(400);
            }
            return made.toString();
        }
    }
}
