import java.util.ArrayList;
import java.util.HashMap;
import java.util.List;
import java.util.Map;
import java.util.Random;
import java.util.Set;
import java.util.TreeMap;
import java.util.TreeSet;

/**
 * Faults of texts found another way than by a reader: the document's grammar is walked token by token
 * with all that may come next, and the first token that nothing goes on with is the fault.
 */
public final class FaultsByGrammarTest {
    private static final Map<String, String[]> GRAMMAR = new HashMap<>();
    private static final Set<String> FACTS =
            Set.of("poor", "maids", "boys", "sick", "bread", "coal", "rent", "lake", "income", "coin");
    private static final Set<String> OF_ACTS = Set.of("living", "dead", "marks");
    private static final int TEXTS = 60000;

    /** A symbol with ^ begins a CLAUSE or RULE; a-b is an N from a to b, 1-most one up to the N before. */
    private static void rule(String name, String... ways) {
        GRAMMAR.put(name, ways);
    }

    static {
        rule("DEED", "", "CLAUSE ; DEED", "CLAUSE ; DEED", "CLAUSE ; DEED");
        rule("CLAUSE", "^mark 0-7 MARKS", "^END", "^trust 1-7 1-most");
        rule("MARKS", "", "0-7 MARKS");
        rule("^END", "^end NEW pays SUM if COND SHARE");
        rule("SHARE", "", "part");
        rule("NEAR", "^END ;");
        rule("ACT", "", "RULE ; ACT", "RULE ; ACT", "RULE ; ACT");
        rule("RULE", "^fail 1-50", "^keep 0-8", "^days 1-360", "^late 1-720", "^gain 0-20", "^sell 1-40",
                "^bar KIND if COND");
        rule("KIND", "near", "join", "sale", "strike");
        rule("COND", "BOTH ORS");
        rule("ORS", "", "", "", "or BOTH ORS");
        rule("BOTH", "PART ANDS");
        rule("ANDS", "", "", "", "and PART ANDS");
        rule("PART", "not PART", "[ COND ]", "SUM SIGN SUM", "SUM SIGN SUM", "SUM SIGN SUM");
        rule("SIGN", "<", ">", "=");
        rule("SUM", "PRODUCT MORE");
        rule("MORE", "", "", "", "+ PRODUCT MORE", "- PRODUCT MORE");
        rule("PRODUCT", "FACTOR TIMES");
        rule("TIMES", "", "", "", "* FACTOR TIMES");
        rule("FACTOR", "0-9999", "0-9999", "FACT", "FACT", "( SUM )");
    }

    /** What may come next: a row of symbols, the first of them a token's. */
    private record Next(String symbol, Next behind) {
    }

    private record Token(String text, int place) {
        boolean isWord() {
            return text.charAt(0) >= 'a' && text.charAt(0) <= 'z';
        }

        boolean isFigures() {
            return text.charAt(0) >= '0' && text.charAt(0) <= '9';
        }
    }

    private record Fault(int kind, int place) {
    }

    // ---- the walk

    private static final class Walk {
        private final String start;
        private int clauses = 0;
        private int open = 0;
        private int latestNumber = 0;
        private final List<String> names = new ArrayList<>();
        /** Where a PART may begin, the WORD not is no FACTOR. */
        private boolean insideSum = false;

        Walk(String start) {
            this.start = start;
        }

        Fault fault(String text) {
            List<Next> may = tokensOf(new Next(start, null));
            for (Token token : tokens(text)) {
                int least = 5;
                List<Next> then = new ArrayList<>();
                for (Next next : may) {
                    int kind = next == null ? 1 : faultOf(next.symbol, token);
                    if (kind == 0) {
                        then.add(next);
                    } else if (kind > 1) {
                        least = Math.min(least, kind);
                    }
                }
                if (then.isEmpty()) {
                    return new Fault(least == 5 ? 1 : least, token.place);
                }
                if (then.size() > 1) {
                    throw new IllegalStateException("two ways on at " + token.place + " of " + text);
                }
                takes(then.get(0).symbol, token);
                may = tokensOf(then.get(0).behind);
            }
            return may.contains(null) ? null : new Fault(1, text.length());
        }

        /** All ways on from here, as far as to a token; null for the end of the text. */
        private static List<Next> tokensOf(Next next) {
            List<Next> all = new ArrayList<>();
            if (next == null || !GRAMMAR.containsKey(next.symbol)) {
                all.add(next);
                return all;
            }
            for (String way : new TreeSet<>(List.of(GRAMMAR.get(next.symbol)))) {
                Next behind = next.behind;
                String[] symbols = way.isEmpty() ? new String[0] : way.split(" ");
                for (int i = symbols.length - 1; i >= 0; i--) {
                    behind = new Next(symbols[i], behind);
                }
                all.addAll(tokensOf(behind));
            }
            return all;
        }

        /** 0: it goes on with this symbol. */
        private int faultOf(String symbol, Token token) {
            if (symbol.equals("FACT")) {
                boolean known = FACTS.contains(token.text) || start.equals("ACT") && OF_ACTS.contains(token.text);
                boolean other = token.text.equals("not") && !insideSum;
                return !token.isWord() || other ? 1 : known ? 0 : 3;
            }
            if (symbol.equals("NEW")) {
                return !token.isWord() || token.text.length() > 8 ? 1 : names.contains(token.text) ? 3 : 0;
            }
            if (symbol.matches("\\d+-.*")) {
                return numberFault(symbol, token);
            }
            if (!symbol.replace("^", "").equals(token.text)) {
                return 1;
            }
            boolean bracket = symbol.equals("(") || symbol.equals("[");
            boolean tooMany = symbol.startsWith("^") && clauses == (start.equals("ACT") ? 20 : 12);
            return tooMany || bracket && open == 4 || symbol.equals("^end") && names.size() == 6 ? 4 : 0;
        }

        private int numberFault(String symbol, Token token) {
            if (!token.isFigures() || token.text.length() > 4) {
                return 1;
            }
            String[] ends = symbol.split("-");
            int most = ends[1].equals("most") ? latestNumber : Integer.parseInt(ends[1]);
            int told = Integer.parseInt(token.text);
            return told < Integer.parseInt(ends[0]) || told > most ? 2 : 0;
        }

        private void takes(String symbol, Token token) {
            clauses += symbol.startsWith("^") ? 1 : 0;
            open += symbol.equals("(") || symbol.equals("[") ? 1 : symbol.equals(")") || symbol.equals("]") ? -1 : 0;
            latestNumber = token.isFigures() && token.text.length() < 5 ? Integer.parseInt(token.text) : 0;
            insideSum = !Set.of("if", "and", "or", "not", "[").contains(token.text) || symbol.equals("NEW");
            if (symbol.equals("NEW")) {
                names.add(token.text);
            }
        }
    }

    private static List<Token> tokens(String text) {
        List<Token> all = new ArrayList<>();
        java.util.regex.Matcher one = java.util.regex.Pattern.compile("[a-z]+|[0-9]+|[^ \n]").matcher(text);
        while (one.find()) {
            all.add(new Token(one.group(), one.start()));
        }
        return all;
    }

    // ---- texts

    private final Random random = new Random(7);
    private int deepest;

    private String made(String start) {
        deepest = random.nextInt(10) == 0 ? 60 : 20 + random.nextInt(15);
        List<String> tokens = new ArrayList<>();
        derive(start, 0, tokens);
        int spoils = random.nextInt(5) == 0 ? 0 : 1 + random.nextInt(2);
        for (int i = 0; i < spoils && !tokens.isEmpty(); i++) {
            spoil(tokens);
        }
        StringBuilder text = new StringBuilder();
        for (String token : tokens) {
            text.append(token).append(List.of("", " ", " ", "\n", "  ").get(random.nextInt(5)));
        }
        text.setLength(Math.min(text.length(), random.nextInt(20) == 0 ? random.nextInt(401) : 400));
        return text.toString();
    }

    private void derive(String symbol, int depth, List<String> into) {
        if (into.size() > 150) {
            return;
        }
        String[] ways = GRAMMAR.get(symbol);
        if (ways == null) {
            into.add(token(symbol));
            return;
        }
        boolean row = symbol.equals("DEED") || symbol.equals("ACT");
        String way = ways[!row && depth > deepest ? 0 : random.nextInt(ways.length)];
        if (row && into.isEmpty() && random.nextInt(8) == 0) {
            String clause = symbol.equals("ACT") ? "^keep 0-8" : random.nextBoolean() ? "^mark 0-7" : "^END";
            way = (clause + " ; ").repeat(5 + random.nextInt(17)) + symbol;
        }
        for (String part : way.isEmpty() ? new String[0] : way.split(" ")) {
            derive(part, row ? depth : depth + 1, into);
        }
    }

    private String token(String symbol) {
        if (symbol.equals("FACT")) {
            return pick("poor", "maids", "boys", "sick", "bread", "coal", "rent", "lake", "income", "coin",
                    random.nextInt(4) == 0 ? "living" : "lake");
        }
        if (symbol.equals("NEW")) {
            return random.nextInt(20) == 0 ? pick("if", "pays", "eightlet", "abcdefghi", "or")
                    : "" + (char) ('a' + random.nextInt(26)) + (char) ('a' + random.nextInt(26));
        }
        if (symbol.matches("\\d+-.*")) {
            String[] ends = symbol.split("-");
            int most = ends[1].equals("most") ? 1 : Integer.parseInt(ends[1]);
            int least = Integer.parseInt(ends[0]);
            return random.nextInt(60) == 0 ? "" + (most + 1) : "" + (least + random.nextInt(most - least + 1));
        }
        return symbol.replace("^", "");
    }

    private String pick(String... some) {
        return some[random.nextInt(some.length)];
    }

    private void spoil(List<String> tokens) {
        String other = pick("mark", "end", "trust", "pays", "if", "part", "not", "and", "or", "near", "bar", "fail",
                "(", ")", "[", "]", "<", "=", "+", "-", "*", ";", ",", "A", "\t", "\u00e4", "0", "7", "8", "9", "51",
                "361", "721", "9999", "10000", "00001", "0001", "poor", "marks", "foo", "incomes", "income");
        int at = random.nextInt(tokens.size());
        switch (random.nextInt(4)) {
            case 0 -> tokens.remove(at);
            case 1 -> tokens.add(at, other);
            case 2 -> tokens.set(at, other);
            default -> tokens.add(at, tokens.get(random.nextInt(tokens.size())));
        }
    }

    private static int read(TrustDesk desk, String start, String text) {
        switch (start) {
            case "DEED":
                return Check.fund(desk, 1, 1, text);
            case "ACT":
                return Check.act(desk, 0, text);
            default:
                return Check.near(desk, 0, text);
        }
    }

    public static void main(String[] args) {
        FaultsByGrammarTest made = new FaultsByGrammarTest();
        TreeMap<String, Integer> seen = new TreeMap<>();
        int texts = args.length > 0 ? Integer.parseInt(args[0]) : TEXTS;
        for (int i = 0; i < texts; i++) {
            String start = List.of("DEED", "ACT", "NEAR").get(i % 3);
            String text = made.made(start);
            Walk walk = new Walk(start);
            Fault due = walk.fault(text);
            TrustDesk desk = new TrustDesk();
            Check.sentence(start + " of '" + text + "'");
            int good = start.equals("ACT") ? walk.clauses : 0;
            Check.same("it", read(desk, start, text), due == null ? good : -1 - due.kind);
            Check.same("place()", desk.place(), due == null ? -1 : due.place);
            seen.merge(start + " " + (due == null ? 0 : due.kind), 1, Integer::sum);
        }
        if (args.length > 0) {
            System.out.println("kinds of faults seen: " + seen);
        }
        for (String start : List.of("DEED 0", "DEED 1", "DEED 2", "DEED 3", "DEED 4", "ACT 0", "ACT 1", "ACT 2",
                "ACT 3", "ACT 4", "NEAR 0", "NEAR 1", "NEAR 3", "NEAR 4")) {
            Check.yes(start + " was seen often enough", seen.getOrDefault(start, 0) > texts / 2000);
        }
        Check.done();
    }
}
