import java.util.ArrayList;
import java.util.Comparator;
import java.util.List;
import java.util.NoSuchElementException;
import java.util.TreeMap;
import java.util.TreeSet;
import java.util.function.Function;

/**
 * The document once more, written in the slowest and plainest way and with all of the Java library,
 * so that RandomRunsTest can compare TrustDesk's answers with a second reading.
 */
final class Model {
    static final List<String> FACT_NAMES =
            List.of("poor", "maids", "boys", "sick", "bread", "coal", "rent", "lake");

    record Telling(int which, int year, int value, int day) {
    }

    /** What the names in a text stand for. */
    interface Scope {
        long valueOf(String name);
    }

    static final class Fault extends RuntimeException {
        final int kind;
        final int place;

        Fault(int kind, int place) {
            super(null, null, false, false);
            this.kind = kind;
            this.place = place;
        }
    }

    record Token(char sort, String text, int place) {
    }

    static final class EndText {
        String name;
        Function<Scope, Long> asks;
        Function<Scope, Boolean> condition;
        List<Function<Scope, Boolean>> comparisons = new ArrayList<>();
        boolean part;
        int marks;
    }

    static final class End {
        EndText text;
        String state = "LIVING";
        int failed = 0;
        int died = -1;
    }

    record Bar(String kind, Function<Scope, Boolean> condition) {
    }

    static final class Act {
        int from;
        int rules;
        TreeMap<String, Integer> numbers = new TreeMap<>();
        List<Bar> bars = new ArrayList<>();

        int number(String rule) {
            Integer told = numbers.get(rule);
            if (told != null) {
                return told;
            }
            switch (rule) {
                case "fail": return 3;
                case "keep": return 1;
                case "days": return 30;
                case "late": return 90;
                case "gain": return 0;
                default: return 20;
            }
        }
    }

    static final class Fund {
        int number;
        int acres;
        int stock;
        long coin;
        TreeSet<Integer> marks = new TreeSet<>();
        int most = 7;
        int needs = 1;
        List<End> ends = new ArrayList<>();
        TreeSet<Integer> trustees = new TreeSet<>();
        long[] parts = new long[12];
        Fund joinedTo;
        int laid;
        TreeSet<Integer> accounts = new TreeSet<>();

        long count(String state) {
            return ends.stream().filter(e -> e.state.equals(state)).count();
        }

        List<End> standing() {
            return ends.stream().filter(e -> !e.state.equals("STRUCK")).toList();
        }
    }

    static final class Scheme {
        int kind;
        int fund;
        int x;
        int day;
        int last;
        int state;
        int failed;
        TreeSet<Integer> objectors = new TreeSet<>();
        TreeMap<Integer, Boolean> votes = new TreeMap<>();
    }

    int day = 0;
    int place = -1;
    int accounts = 0;
    List<Integer> tape = new ArrayList<>();
    List<Telling> tellings = new ArrayList<>();
    List<Act> acts = new ArrayList<>();
    List<Fund> funds = new ArrayList<>();
    List<EndText> nears = new ArrayList<>();
    List<Scheme> schemes = new ArrayList<>();
    List<long[]> entries = new ArrayList<>();
    long[] paid = new long[12];

    static boolean within(long n, long least, long most) {
        return least <= n && n <= most;
    }

    // ---- reading

    final class Parser {
        final List<Token> tokens = new ArrayList<>();
        final boolean forAct;
        int at = 0;
        int open = 0;
        List<Function<Scope, Boolean>> comparisons = new ArrayList<>();

        Parser(boolean forAct) {
            this.forAct = forAct;
            int i = 0;
            while (i < tape.size()) {
                int b = tape.get(i);
                if (b == 32 || b == 10) {
                    i++;
                    continue;
                }
                char sort = sortOf(b);
                StringBuilder text = new StringBuilder();
                int start = i;
                do {
                    text.append((char) (int) tape.get(i));
                    i++;
                } while (sort != 's' && i < tape.size() && sortOf(tape.get(i)) == sort);
                tokens.add(new Token(sort, text.toString(), start));
            }
            tokens.add(new Token('e', "", tape.size()));
        }

        char sortOf(int b) {
            return within(b, 'a', 'z') ? 'w' : within(b, '0', '9') ? 'n' : 's';
        }

        Token now() {
            return tokens.get(at);
        }

        boolean sees(String text) {
            return now().text.equals(text) && now().sort != 'e';
        }

        void take(String text) {
            if (!sees(text)) {
                throw new Fault(1, now().place);
            }
            at++;
        }

        int number(int least, int most) {
            Token t = now();
            if (t.sort != 'n' || t.text.length() > 4) {
                throw new Fault(1, t.place);
            }
            int n = Integer.parseInt(t.text);
            if (!within(n, least, most)) {
                throw new Fault(2, t.place);
            }
            at++;
            return n;
        }

        void bracket(String sign) {
            if (open == 4) {
                throw new Fault(4, now().place);
            }
            open++;
            take(sign);
        }

        Function<Scope, Boolean> cond() {
            Function<Scope, Boolean> left = both();
            while (sees("or")) {
                at++;
                Function<Scope, Boolean> l = left;
                Function<Scope, Boolean> r = both();
                left = s -> l.apply(s) || r.apply(s);
            }
            return left;
        }

        Function<Scope, Boolean> both() {
            Function<Scope, Boolean> left = part();
            while (sees("and")) {
                at++;
                Function<Scope, Boolean> l = left;
                Function<Scope, Boolean> r = part();
                left = s -> l.apply(s) && r.apply(s);
            }
            return left;
        }

        Function<Scope, Boolean> part() {
            if (sees("not")) {
                at++;
                Function<Scope, Boolean> p = part();
                return s -> !p.apply(s);
            }
            if (sees("[")) {
                bracket("[");
                Function<Scope, Boolean> c = cond();
                take("]");
                open--;
                return c;
            }
            Function<Scope, Long> l = sum();
            Token sign = now();
            if (!sees("<") && !sees(">") && !sees("=")) {
                throw new Fault(1, sign.place);
            }
            at++;
            Function<Scope, Long> r = sum();
            Function<Scope, Boolean> c = s -> {
                int by = Long.compare(l.apply(s), r.apply(s));
                return sign.text.equals("<") ? by < 0 : sign.text.equals(">") ? by > 0 : by == 0;
            };
            comparisons.add(c);
            return c;
        }

        long bound(long n) {
            return n > 1000000000 ? 1000000000 : n < -1000000000 ? -1000000000 : n;
        }

        Function<Scope, Long> sum() {
            Function<Scope, Long> left = product();
            while (sees("+") || sees("-")) {
                boolean plus = sees("+");
                at++;
                Function<Scope, Long> l = left;
                Function<Scope, Long> r = product();
                left = s -> bound(plus ? l.apply(s) + r.apply(s) : l.apply(s) - r.apply(s));
            }
            return left;
        }

        Function<Scope, Long> product() {
            Function<Scope, Long> left = factor();
            while (sees("*")) {
                at++;
                Function<Scope, Long> l = left;
                Function<Scope, Long> r = factor();
                left = s -> bound(l.apply(s) * r.apply(s));
            }
            return left;
        }

        Function<Scope, Long> factor() {
            Token t = now();
            if (t.sort == 'w') {
                boolean known = FACT_NAMES.contains(t.text) || List.of("income", "coin").contains(t.text)
                        || forAct && List.of("living", "dead", "marks").contains(t.text);
                if (!known) {
                    throw new Fault(3, t.place);
                }
                at++;
                return s -> s.valueOf(t.text);
            }
            if (sees("(")) {
                bracket("(");
                Function<Scope, Long> inner = sum();
                take(")");
                open--;
                return inner;
            }
            long n = number(0, 9999);
            return s -> n;
        }

        EndText endClause(List<String> before) {
            take("end");
            Token name = now();
            if (name.sort != 'w' || name.text.length() > 8) {
                throw new Fault(1, name.place);
            }
            if (before.contains(name.text)) {
                throw new Fault(3, name.place);
            }
            at++;
            EndText text = new EndText();
            text.name = name.text;
            take("pays");
            text.asks = sum();
            take("if");
            comparisons = text.comparisons;
            text.condition = cond();
            if (sees("part")) {
                at++;
                text.part = true;
            }
            take(";");
            return text;
        }

        void deed(Fund fund) {
            for (int clauses = 0; now().sort != 'e'; clauses++) {
                boolean end = sees("end");
                if (!end && !sees("mark") && !sees("trust")) {
                    throw new Fault(1, now().place);
                }
                if (clauses == 12 || end && fund.ends.size() == 6) {
                    throw new Fault(4, now().place);
                }
                if (end) {
                    End e = new End();
                    e.text = endClause(fund.ends.stream().map(f -> f.text.name).toList());
                    fund.ends.add(e);
                } else if (sees("mark")) {
                    at++;
                    do {
                        fund.marks.add(number(0, 7));
                    } while (now().sort == 'n');
                    take(";");
                } else {
                    at++;
                    fund.most = number(1, 7);
                    fund.needs = number(1, fund.most);
                    take(";");
                }
            }
        }

        void act(Act act) {
            List<String> rules = List.of("fail", "keep", "days", "late", "gain", "sell");
            int[][] bounds = {{1, 50}, {0, 8}, {1, 360}, {1, 720}, {0, 20}, {1, 40}};
            while (now().sort != 'e') {
                int rule = rules.indexOf(now().text);
                if (rule < 0 && !sees("bar")) {
                    throw new Fault(1, now().place);
                }
                if (act.rules == 20) {
                    throw new Fault(4, now().place);
                }
                act.rules++;
                at++;
                if (rule >= 0) {
                    act.numbers.put(rules.get(rule), number(bounds[rule][0], bounds[rule][1]));
                } else {
                    String kind = now().text;
                    if (!List.of("near", "join", "sale", "strike").contains(kind)) {
                        throw new Fault(1, now().place);
                    }
                    at++;
                    take("if");
                    act.bars.add(new Bar(kind, cond()));
                }
                take(";");
            }
        }
    }

    // ---- answers

    boolean fact(int which, int year, int v) {
        if (!within(which, 0, 7) || !within(year, 0, 100) || !within(v, 0, 9999) || tellings.size() == 300) {
            return false;
        }
        tellings.add(new Telling(which, year, v, day));
        return true;
    }

    long known(int which, int year, int by) {
        for (int y = year; y >= 0; y--) {
            for (int i = tellings.size() - 1; i >= 0; i--) {
                Telling t = tellings.get(i);
                if (t.which == which && t.year == y && t.day <= by) {
                    return t.value;
                }
            }
        }
        return 0;
    }

    int factOf(int which, int year, int by) {
        return within(which, 0, 7) && within(year, 0, 100) && within(by, 0, day) ? (int) known(which, year, by) : -1;
    }

    int feed(int... numbers) {
        if (tape.size() + 20 > 400) {
            return -1;
        }
        for (int n : numbers) {
            for (byte b : java.nio.ByteBuffer.allocate(4).putInt(n).array()) {
                tape.add(b & 255);
            }
        }
        return tape.size();
    }

    int end(int n) {
        if (!within(n, 0, tape.size())) {
            return -1;
        }
        tape = new ArrayList<>(tape.subList(0, n));
        return n;
    }

    private int read(Runnable reading) {
        place = -1;
        try {
            reading.run();
            return 0;
        } catch (Fault fault) {
            place = fault.place;
            return -1 - fault.kind;
        } finally {
            tape.clear();
        }
    }

    int act(int from) {
        if (!within(from, 0, 36000) || acts.size() == 20) {
            return -1;
        }
        Act act = new Act();
        act.from = from;
        int fault = read(() -> new Parser(true).act(act));
        if (fault != 0) {
            return fault;
        }
        acts.add(act);
        return act.rules;
    }

    Act inForce(int on) {
        Act best = null;
        for (Act act : acts) {
            if (act.from <= on && (best == null || act.from >= best.from)) {
                best = act;
            }
        }
        return best == null ? new Act() : best;
    }

    int holds(int on, int what) {
        if (!within(on, 0, 36000) || !within(what, 0, 5)) {
            return -1;
        }
        return inForce(on).number(List.of("fail", "keep", "days", "late", "gain", "sell").get(what));
    }

    int fund(int acres, int stock) {
        if (!within(acres, 0, 999) || !within(stock, 0, 99999) || funds.size() == 12) {
            return -1;
        }
        Fund fund = new Fund();
        fund.number = funds.size();
        fund.acres = acres;
        fund.stock = stock;
        fund.parts[fund.number] = 1000000;
        int fault = read(() -> new Parser(false).deed(fund));
        if (fault != 0) {
            return fault;
        }
        funds.add(fund);
        return fund.number;
    }

    int near(int marks) {
        if (!within(marks, 0, 255) || nears.size() == 12) {
            return -1;
        }
        List<EndText> texts = new ArrayList<>();
        int fault = read(() -> {
            Parser parser = new Parser(false);
            texts.add(parser.endClause(List.of()));
            if (parser.now().sort != 'e') {
                throw new Fault(1, parser.now().place);
            }
        });
        if (fault != 0) {
            return fault;
        }
        texts.get(0).marks = marks;
        nears.add(texts.get(0));
        return nears.size() - 1;
    }

    long incomeOf(Fund fund, int year, int by) {
        return fund.acres * known(6, year, by) + fund.stock;
    }

    Scope scope(Fund fund, int year, int by) {
        return name -> {
            switch (name) {
                case "income": return Math.min(1000000000L, incomeOf(fund, year, by));
                case "coin": return Math.min(1000000000L, fund.coin);
                case "living": return fund.count("LIVING");
                case "dead": return fund.count("DEAD");
                case "marks": return fund.marks.size();
                default: return known(FACT_NAMES.indexOf(name), year, by);
            }
        };
    }

    int days(int n) {
        if (!within(n, 1, 720) || day + n > 36000) {
            return -1;
        }
        for (int i = 0; i < n; i++) {
            if (day % 360 == 359) {
                close(day / 360);
            }
            day++;
        }
        return day;
    }

    void add(Fund fund, long coin) {
        fund.coin = Math.min(1000000000000000L, fund.coin + coin);
    }

    void close(int year) {
        Act act = inForce(day);
        for (Fund fund : funds) {
            if (fund.joinedTo != null) {
                continue;
            }
            add(fund, fund.coin * act.number("gain") / 100);
            add(fund, incomeOf(fund, year, day));
            for (int e = 0; e < fund.ends.size(); e++) {
                End end = fund.ends.get(e);
                if (!end.state.equals("LIVING")) {
                    continue;
                }
                Scope scope = scope(fund, year, day);
                if (end.text.condition.apply(scope)) {
                    end.failed = 0;
                    long asks = Math.max(0, end.text.asks.apply(scope));
                    long gets = asks <= fund.coin ? asks : end.text.part ? fund.coin : 0;
                    fund.coin -= gets;
                    leadBack(fund, gets);
                    if (gets != 0 && entries.size() < 600) {
                        entries.add(new long[] {year, fund.number, e, gets});
                    }
                } else {
                    end.failed++;
                    if (end.failed >= act.number("fail")) {
                        end.state = "DEAD";
                        end.died = year;
                    }
                }
            }
        }
    }

    void leadBack(Fund fund, long gets) {
        long left = gets;
        for (int i = 0; i < 12; i++) {
            paid[i] += gets * fund.parts[i] / 1000000;
            left -= gets * fund.parts[i] / 1000000;
        }
        for (int i = 0; i < 12; i++) {
            if (left > 0 && fund.parts[i] > 0) {
                paid[i]++;
                left--;
            }
        }
        if (left != 0) {
            throw new IllegalStateException("left over");
        }
    }

    Fund fundAt(int n) {
        return within(n, 0, funds.size() - 1) ? funds.get(n) : null;
    }

    boolean trustee(int fund, int person) {
        Fund f = fundAt(fund);
        if (f == null || !within(person, 0, 99) || f.joinedTo != null || f.trustees.size() >= f.most) {
            return false;
        }
        return f.trustees.add(person);
    }

    int propose(int kind, int fund, int x) {
        boolean fits = kind == 0 ? within(x, 0, nears.size() - 1) : kind == 1 ? fundAt(x) != null
                : kind == 2 ? within(x, 1, 999) : kind == 3 && x >= 0;
        if (fundAt(fund) == null || !fits || schemes.size() == 40) {
            return -1;
        }
        Scheme s = new Scheme();
        s.kind = kind;
        s.fund = fund;
        s.x = x;
        s.day = day;
        s.last = day + inForce(day).number("days");
        schemes.add(s);
        return schemes.size() - 1;
    }

    Scheme openAt(int n) {
        return within(n, 0, schemes.size() - 1) && schemes.get(n).state == 0 ? schemes.get(n) : null;
    }

    boolean objects(int scheme, int person) {
        Scheme s = openAt(scheme);
        return s != null && within(person, 0, 99) && day <= s.last && s.objectors.size() < 10
                && s.objectors.add(person);
    }

    boolean withdraws(int scheme, int person) {
        Scheme s = openAt(scheme);
        return s != null && s.objectors.remove(person);
    }

    List<Fund> voting(Scheme s) {
        return s.kind == 1 ? List.of(funds.get(s.fund), funds.get(s.x)) : List.of(funds.get(s.fund));
    }

    boolean vote(int scheme, int person, boolean yes) {
        Scheme s = openAt(scheme);
        if (s == null || voting(s).stream().noneMatch(f -> f.trustees.contains(person))) {
            return false;
        }
        s.votes.put(person, yes);
        return true;
    }

    int settle(int scheme) {
        Scheme s = openAt(scheme);
        if (s == null || day <= s.last) {
            return -1;
        }
        s.failed = failure(s);
        s.state = s.failed == 0 ? 1 : 2;
        if (s.failed == 0) {
            make(s);
        }
        return s.failed;
    }

    End firstDead(Fund fund) {
        return fund.ends.stream().filter(e -> e.state.equals("DEAD")).findFirst().orElse(null);
    }

    TreeSet<Integer> common(TreeSet<Integer> a, TreeSet<Integer> b) {
        TreeSet<Integer> both = new TreeSet<>(a);
        both.retainAll(b);
        return both;
    }

    TreeSet<Integer> marksOf(EndText near) {
        TreeSet<Integer> marks = new TreeSet<>();
        for (int i = 0; i < 8; i++) {
            if ((near.marks & 1 << i) != 0) {
                marks.add(i);
            }
        }
        return marks;
    }

    int failure(Scheme s) {
        Fund fund = funds.get(s.fund);
        if (fund.joinedTo != null) {
            return 1;
        }
        TreeSet<Integer> left = fund.marks;
        if (s.kind == 0) {
            if (firstDead(fund) == null) {
                return 1;
            }
            left = common(left, marksOf(nears.get(s.x)));
        } else if (s.kind == 1) {
            Fund other = funds.get(s.x);
            if (s.x == s.fund || other.joinedTo != null
                    || fund.standing().size() + other.standing().size() > 12) {
                return 1;
            }
            left = common(left, other.marks);
        } else if (s.kind == 2) {
            if (s.x > fund.acres) {
                return 1;
            }
        } else if (s.x >= fund.ends.size() || fund.ends.get(s.x).state.equals("STRUCK")) {
            return 1;
        }
        Act act = inForce(day);
        String kind = List.of("near", "join", "sale", "strike").get(s.kind);
        for (Bar bar : act.bars) {
            if (bar.kind.equals(kind) && bar.condition.apply(scope(fund, day / 360, day))) {
                return 2;
            }
        }
        if (left.size() < act.number("keep")) {
            return 3;
        }
        for (Fund f : voting(s)) {
            if (f.trustees.stream().filter(p -> s.votes.getOrDefault(p, false)).count() < f.needs) {
                return 4;
            }
        }
        return s.objectors.isEmpty() ? 0 : 5;
    }

    void make(Scheme s) {
        Fund fund = funds.get(s.fund);
        if (s.kind == 0) {
            End end = firstDead(fund);
            end.text = nears.get(s.x);
            end.state = "LIVING";
            end.failed = 0;
            end.died = -1;
            fund.marks.retainAll(marksOf(nears.get(s.x)));
        } else if (s.kind == 1) {
            join(fund, funds.get(s.x));
        } else if (s.kind == 2) {
            fund.acres -= s.x;
            add(fund, s.x * known(6, day / 360, day) * inForce(day).number("sell"));
        } else {
            fund.ends.get(s.x).state = "STRUCK";
        }
    }

    void join(Fund fund, Fund other) {
        long a = Math.min(1000000000000L, fund.coin + 20 * incomeOf(fund, day / 360, day));
        long b = Math.min(1000000000000L, other.coin + 20 * incomeOf(other, day / 360, day));
        if (a + b == 0) {
            a = 1;
            b = 1;
        }
        long left = 1000000;
        for (int i = 0; i < 12; i++) {
            other.parts[i] = java.math.BigInteger.valueOf(a).multiply(java.math.BigInteger.valueOf(fund.parts[i]))
                    .add(java.math.BigInteger.valueOf(b).multiply(java.math.BigInteger.valueOf(other.parts[i])))
                    .divide(java.math.BigInteger.valueOf(a + b)).longValueExact();
            left -= other.parts[i];
        }
        for (int i = 0; i < 12; i++) {
            if (other.parts[i] > 0) {
                other.parts[i] += left;
                break;
            }
        }
        add(other, fund.coin);
        other.acres = Math.min(999, other.acres + fund.acres);
        other.stock = Math.min(99999, other.stock + fund.stock);
        other.marks.retainAll(fund.marks);
        for (End end : fund.standing()) {
            End moved = new End();
            moved.text = end.text;
            moved.state = end.state;
            moved.failed = end.failed;
            moved.died = end.died;
            other.ends.add(moved);
            end.state = "STRUCK";
        }
        fund.coin = 0;
        fund.acres = 0;
        fund.stock = 0;
        fund.trustees.clear();
        fund.joinedTo = other;
    }

    int scheme(int n, int what) {
        if (!within(n, 0, schemes.size() - 1) || !within(what, 0, 9)) {
            return -1;
        }
        Scheme s = schemes.get(n);
        int yes = (int) s.votes.values().stream().filter(v -> v).count();
        return new int[] {s.kind, s.fund, s.x, s.day, s.last, s.state, s.failed, s.objectors.size(), yes,
            s.votes.size() - yes}[what];
    }

    int bits(TreeSet<Integer> marks) {
        return marks.stream().mapToInt(m -> 1 << m).sum();
    }

    int fundOf(int fund, int what) {
        Fund f = fundAt(fund);
        if (f == null || !within(what, 0, 9)) {
            throw new NoSuchElementException();
        }
        return new int[] {f.acres, f.stock, bits(f.marks), f.ends.size(), (int) f.count("LIVING"),
            (int) f.count("DEAD"), f.joinedTo == null ? -1 : f.joinedTo.number, f.trustees.size(), f.most,
            f.needs}[what];
    }

    long coin(int fund) {
        return fundAt(fund) == null ? -1 : fundAt(fund).coin;
    }

    int income(int fund, int year, int by) {
        return fundAt(fund) == null || !within(year, 0, 100) || !within(by, 0, day) ? -1
                : (int) incomeOf(fundAt(fund), year, by);
    }

    int part(int fund, int founder) {
        return fundAt(fund) == null || fundAt(founder) == null ? -1 : (int) fundAt(fund).parts[founder];
    }

    long paid(int founder) {
        return fundAt(founder) == null ? -1 : paid[founder];
    }

    End endAt(int fund, int end) {
        return fundAt(fund) != null && within(end, 0, fundAt(fund).ends.size() - 1) ? fundAt(fund).ends.get(end)
                : null;
    }

    int endOf(int fund, int end, int what) {
        End e = endAt(fund, end);
        if (e == null || !within(what, 0, 3)) {
            return -1;
        }
        return new int[] {List.of("LIVING", "DEAD", "STRUCK").indexOf(e.state), e.failed, e.died,
            e.text.name.length()}[what];
    }

    int due(int fund, int end, int year, int by) {
        End e = endAt(fund, end);
        if (e == null || !within(year, 0, 100) || !within(by, 0, day)) {
            return -1;
        }
        Scope scope = scope(fundAt(fund), year, by);
        return e.text.condition.apply(scope) ? (int) Math.max(0, e.text.asks.apply(scope)) : -2;
    }

    int why(int fund, int end, int year, int by) {
        End e = endAt(fund, end);
        if (e == null || !within(year, 0, 100) || !within(by, 0, day)) {
            return -1;
        }
        Scope scope = scope(fundAt(fund), year, by);
        for (int i = 0; i < e.text.comparisons.size(); i++) {
            if (!e.text.comparisons.get(i).apply(scope)) {
                return i;
            }
        }
        return -1;
    }

    int entry(int k, int what) {
        return within(k, 0, entries.size() - 1) && within(what, 0, 3) ? (int) entries.get(k)[what] : -1;
    }

    int nearest(int fund) {
        Fund f = fundAt(fund);
        if (f == null || f.joinedTo != null) {
            return -1;
        }
        int best = -1;
        for (int i = 0; i < nears.size(); i++) {
            int has = common(f.marks, marksOf(nears.get(i))).size();
            if (has >= inForce(day).number("keep")
                    && (best < 0 || has > common(f.marks, marksOf(nears.get(best))).size())) {
                best = i;
            }
        }
        return best;
    }

    int marks(int fund, int near, int what) {
        if (fundAt(fund) == null || !within(near, 0, nears.size() - 1) || !within(what, 0, 1)) {
            return -1;
        }
        int kept = common(fundAt(fund).marks, marksOf(nears.get(near))).size();
        return what == 0 ? kept : fundAt(fund).marks.size() - kept;
    }

    // ---- groups

    List<Fund> gathered(int bits) {
        List<Fund> some = new ArrayList<>();
        for (int i = 0; i < 32; i++) {
            if ((bits & 1 << i) != 0) {
                if (fundAt(i) == null || fundAt(i).joinedTo != null) {
                    return null;
                }
                some.add(fundAt(i));
            }
        }
        return within(some.size(), 1, 8) ? some : null;
    }

    long need(Fund fund) {
        Scope scope = scope(fund, day / 360, day);
        return fund.ends.stream().filter(e -> e.state.equals("LIVING") && e.text.condition.apply(scope))
                .mapToLong(e -> Math.max(0, e.text.asks.apply(scope))).sum();
    }

    /** IDLE of funds by their groups; null if they can't be grouped so. */
    Long idle(List<Fund> some, long[] spare, int[] row) {
        long all = 0;
        for (int g = 0; g < 8; g++) {
            long idle = 0;
            int members = 0;
            TreeSet<Integer> shared = new TreeSet<>(List.of(0, 1, 2, 3, 4, 5, 6, 7));
            for (int i = 0; i < row.length; i++) {
                if (row[i] == g) {
                    members++;
                    shared.retainAll(some.get(i).marks);
                    idle += spare[i];
                }
            }
            if (members > 1 && shared.size() < inForce(day).number("keep")) {
                return null;
            }
            all += Math.max(0, idle);
        }
        return all;
    }

    void rows(int[] row, int at, int used, List<int[]> into) {
        if (at == row.length) {
            into.add(row.clone());
            return;
        }
        for (int g = used; g >= 0; g--) {
            row[at] = g;
            rows(row, at + 1, Math.max(used, g + 1), into);
        }
    }

    record Grouped(long idle, int groups, int[] row) {
    }

    long[] spares(List<Fund> some) {
        return some.stream().mapToLong(f -> incomeOf(f, day / 360, day) - need(f)).toArray();
    }

    Grouped best(List<Fund> some) {
        long[] spare = spares(some);
        List<int[]> rows = new ArrayList<>();
        rows(new int[some.size()], 0, 0, rows);
        Comparator<Grouped> order = Comparator.comparingLong(Grouped::idle);
        order = order.thenComparingInt(Grouped::groups).thenComparing(Grouped::row, java.util.Arrays::compare);
        return rows.stream().filter(r -> idle(some, spare, r) != null)
                .map(r -> new Grouped(idle(some, spare, r), 1 + java.util.Arrays.stream(r).max().getAsInt(), r))
                .min(order).get();
    }

    long group(int bits) {
        List<Fund> some = gathered(bits);
        return some == null ? -1 : best(some).idle;
    }

    int grouped(int bits, int fund) {
        List<Fund> some = gathered(bits);
        int at = some == null || fundAt(fund) == null ? -1 : some.indexOf(fundAt(fund));
        return at < 0 ? -1 : best(some).row[at];
    }

    boolean lay(int fund, int group) {
        if (fundAt(fund) == null || !within(group, 0, 7)) {
            return false;
        }
        fundAt(fund).laid = group;
        return true;
    }

    long judge(int bits) {
        List<Fund> some = gathered(bits);
        if (some == null) {
            return -1;
        }
        Long idle = idle(some, spares(some), some.stream().mapToInt(f -> f.laid).toArray());
        return idle == null ? -2 : idle;
    }

    int account(int fund, int year) {
        if (fundAt(fund) == null || !within(year, 0, day / 360 - 1) || accounts == 200
                || !fundAt(fund).accounts.add(year)) {
            return -1;
        }
        accounts++;
        int last = year * 360 + 359;
        return Math.max(0, day - last - inForce(last).number("late"));
    }

    int count(int what) {
        if (!within(what, 0, 11)) {
            return -1;
        }
        return new int[] {day, day / 360, tellings.size(), acts.size(), funds.size(), nears.size(),
            schemes.size(), entries.size(), tape.size(), accounts,
            (int) schemes.stream().filter(s -> s.state == 1).count(),
            (int) funds.stream().filter(f -> f.joinedTo == null).count()}[what];
    }
}
