import java.math.BigInteger;
import java.nio.charset.StandardCharsets;
import java.util.ArrayDeque;
import java.util.ArrayList;
import java.util.Deque;
import java.util.HashMap;
import java.util.List;
import java.util.Map;
import java.util.Set;
import java.util.TreeMap;
import java.util.regex.Matcher;
import java.util.regex.Pattern;

/**
 * The document once more, told as plainly as can be, for comparison: a stack of symbols tells error 1, layers are
 * reckoned one by one with all claims, and nothing is looked at for speed.
 */
final class PlainHouse {
    private static final Set<String> KEYWORDS = Set.of("layer", "xs", "share", "yearly", "after", "reinstate", "at", "net",
            "of", "when", "and", "or", "not", "min", "max", "line", "year", "amount");
    private static final Set<String> COMPARISONS = Set.of("<", ">", "=", "<=", ">=");
    private static final Pattern TOKEN = Pattern.compile("[a-z][a-z0-9]*|[0-9]+|<=|>=|[\\[\\]();,+\\-*/<>=]");

    private record Token(String kind, String text, int position) {
    }

    private record Symbol(String name, int depth) {
    }

    private interface Sum {
        int of(int line, int year, int amount);
    }

    private interface Test {
        boolean of(int line, int year, int amount);
    }

    private static final class PlainLayer {
        String name;
        Sum limit;
        Sum retention;
        Sum yearly;
        Sum after;
        Test when;
        int share = 100;
        int reinstate = -1;
        final List<Integer> ats = new ArrayList<>();
        final List<String> net = new ArrayList<>();

        BigInteger limitOf(int year) {
            return BigInteger.valueOf(Math.max(limit.of(0, year, 0), 0));
        }

        int afterOf(int year) {
            return after == null ? 0 : Math.max(after.of(0, year, 0), 0);
        }

        /** null without one. */
        BigInteger boundOf(int year) {
            BigInteger bound = yearly == null ? null : BigInteger.valueOf(Math.max(yearly.of(0, year, 0), 0));
            if (reinstate >= 0) {
                BigInteger other = limitOf(year).multiply(BigInteger.valueOf(1 + reinstate));
                bound = bound == null ? other : bound.min(other);
            }
            return bound;
        }
    }

    private static final class PlainClaim {
        int year;
        int line;
        int paid;
        int reserve;
        boolean isOpen = true;
        final Map<Integer, int[]> ends = new HashMap<>();
    }

    /** What is reckoned of all claims with some amounts. */
    private static final class Reckoned {
        int[] amounts;
        int[][] bears;
        int[][] gets;

        int gotBy(int claim) {
            int got = 0;
            for (int[] row : gets) {
                got += row[claim];
            }
            return got;
        }

        int left(int claim) {
            return Math.max(amounts[claim] - gotBy(claim), 0);
        }

        int allLeft() {
            int left = 0;
            for (int i = 0; i < amounts.length; i++) {
                left += left(i);
            }
            return left;
        }
    }

    private String tape = "";
    private int error = -1;
    private List<PlainLayer> layers = new ArrayList<>();
    private final List<PlainClaim> claims = new ArrayList<>();
    private final Map<Integer, int[]> premiums = new TreeMap<>();
    private int now = 0;
    private int tail = 1000;

    // ---- the language

    public int feed(int a, int b, int c, int d, int e) {
        if (tape.length() + 20 > 2000) {
            throw new IllegalStateException();
        }
        byte[] bytes = java.nio.ByteBuffer.allocate(20).putInt(a).putInt(b).putInt(c).putInt(d).putInt(e).array();
        tape += new String(bytes, StandardCharsets.ISO_8859_1);
        return tape.length();
    }

    public int trim(int n) {
        if (n < 0 || n > tape.length()) {
            throw new IllegalArgumentException();
        }
        tape = tape.substring(0, n);
        return n;
    }

    public int errorAt() {
        return error;
    }

    public int teach() {
        List<Token> tokens = tokensOf(tape);
        tape = "";
        Token wrong = firstWrong(tokens);
        if (wrong != null) {
            error = wrong.position;
            return 1;
        }
        List<PlainLayer> read = new Reader(tokens).text();
        int[] found = namesAndNumbers(tokens);
        error = found[1];
        if (found[0] == 0) {
            layers = read;
        }
        return found[0];
    }

    private static List<Token> tokensOf(String text) {
        List<Token> tokens = new ArrayList<>();
        int at = 0;
        while (true) {
            while (at < text.length() && (text.charAt(at) == ' ' || text.charAt(at) == '\n')) {
                at++;
            }
            if (at == text.length()) {
                tokens.add(new Token("end", "", at));
                return tokens;
            }
            Matcher matcher = TOKEN.matcher(text).region(at, text.length());
            if (!matcher.lookingAt() || tokens.size() == 400) {
                tokens.add(new Token("bad", "", at));
                return tokens;
            }
            String found = matcher.group();
            tokens.add(new Token(kindOf(found), found, at));
            at = matcher.end();
        }
    }

    private static String kindOf(String found) {
        if (Character.isDigit(found.charAt(0))) {
            return found.length() > 7 ? "bad" : "number";
        }
        if (Character.isLetter(found.charAt(0)) && !KEYWORDS.contains(found)) {
            return found.length() > 10 ? "bad" : "name";
        }
        return found;
    }

    private static Token firstWrong(List<Token> tokens) {
        Deque<Symbol> due = new ArrayDeque<>();
        due.push(new Symbol("TEXT", 0));
        int next = 0;
        while (!due.isEmpty()) {
            Symbol symbol = due.pop();
            String seen = tokens.get(next).kind;
            if (Character.isUpperCase(symbol.name.charAt(0))) {
                String[] rule = ruleOf(symbol.name, seen);
                if (rule == null || !mayOpen(rule, symbol.depth)) {
                    return tokens.get(next);
                }
                pushAll(due, rule, symbol.depth);
            } else if (symbol.name.equals(seen)) {
                next++;
            } else {
                return tokens.get(next);
            }
        }
        return null;
    }

    private static boolean mayOpen(String[] rule, int depth) {
        for (String name : rule) {
            if (name.endsWith("'") && depth == 8) {
                return rule[0].equals("min") || rule[0].equals("max");
            }
        }
        return true;
    }

    /** What is marked by a ' stands one deeper. */
    private static void pushAll(Deque<Symbol> due, String[] rule, int depth) {
        for (int i = rule.length - 1; i >= 0; i--) {
            boolean isDeeper = rule[i].endsWith("'");
            String name = isDeeper ? rule[i].substring(0, rule[i].length() - 1) : rule[i];
            due.push(new Symbol(name, isDeeper ? depth + 1 : depth));
        }
    }

    private static String[] ruleOf(String name, String seen) {
        switch (name) {
            case "TEXT": return seen.equals("layer") ? rule("LAYER TEXT") : rule("end");
            case "LAYER": return rule("layer name SUM xs SUM SHARE YEARLY AFTER REINSTATE NET WHEN ;");
            case "SHARE": return seen.equals("share") ? rule("share number") : rule("");
            case "YEARLY": return seen.equals("yearly") ? rule("yearly SUM") : rule("");
            case "AFTER": return seen.equals("after") ? rule("after SUM") : rule("");
            case "REINSTATE": return seen.equals("reinstate") ? rule("reinstate number ATS") : rule("");
            case "ATS": return seen.equals("at") ? rule("at number ATS") : rule("");
            case "NET": return seen.equals("net") ? rule("net of name NAMES") : rule("");
            case "NAMES": return seen.equals(",") ? rule(", name NAMES") : rule("");
            case "WHEN": return seen.equals("when") ? rule("when TEST") : rule("");
            case "TEST": return rule("BOTH ORS");
            case "ORS": return seen.equals("or") ? rule("or BOTH ORS") : rule("");
            case "BOTH": return rule("SINGLE ANDS");
            case "ANDS": return seen.equals("and") ? rule("and SINGLE ANDS") : rule("");
            case "SINGLE": return singleRule(seen);
            case "COMPARED": return COMPARISONS.contains(seen) ? rule(seen) : null;
            case "SUM": return rule("PRODUCT SUMS");
            case "SUMS": return seen.equals("+") || seen.equals("-") ? rule(seen + " PRODUCT SUMS") : rule("");
            case "PRODUCT": return rule("VALUE PRODUCTS");
            case "PRODUCTS": return seen.equals("*") || seen.equals("/") ? rule(seen + " VALUE PRODUCTS") : rule("");
            case "PAIR": return seen.equals("(") ? rule("( SUM' , SUM' )") : null;
            default: return valueRule(seen);
        }
    }

    private static String[] singleRule(String seen) {
        if (seen.equals("not")) {
            return rule("not SINGLE'");
        }
        return seen.equals("[") ? rule("[ TEST' ]") : rule("SUM COMPARED SUM");
    }

    private static String[] valueRule(String seen) {
        switch (seen) {
            case "number":
            case "line":
            case "year":
            case "amount": return rule(seen);
            case "-": return rule("- VALUE'");
            case "(": return rule("( SUM' )");
            case "min":
            case "max": return rule(seen + " PAIR");
            default: return null;
        }
    }

    private static String[] rule(String symbols) {
        return symbols.isEmpty() ? new String[0] : symbols.split(" ");
    }

    /** The error, 2 to 5, and its position; 0 and -1 without one. */
    private static int[] namesAndNumbers(List<Token> tokens) {
        List<String> told = new ArrayList<>();
        int reinstate = 0;
        int ats = 0;
        for (int i = 1; i < tokens.size(); i++) {
            String ahead = tokens.get(i - 1).kind;
            Token token = tokens.get(i);
            int error = 0;
            if (ahead.equals("layer")) {
                error = told.contains(token.text) ? 2 : told.size() == 8 ? 4 : 0;
                told.add(token.text);
            } else if (token.kind.equals("name")) {
                error = told.indexOf(token.text) >= 0 && told.indexOf(token.text) < told.size() - 1 ? 0 : 3;
            } else if (ahead.equals("share")) {
                int share = Integer.parseInt(token.text);
                error = share < 1 || share > 100 ? 5 : 0;
            } else if (ahead.equals("reinstate")) {
                reinstate = Integer.parseInt(token.text);
                ats = 0;
                error = reinstate > 4 ? 5 : 0;
            } else if (ahead.equals("at")) {
                ats++;
                error = Integer.parseInt(token.text) > 300 || ats > reinstate ? 5 : 0;
            }
            if (error != 0) {
                return new int[] {error, token.position};
            }
        }
        return new int[] {0, -1};
    }

    /** Reads a text without error 1. */
    private static final class Reader {
        private final List<Token> tokens;
        private int next = 0;

        Reader(List<Token> tokens) {
            this.tokens = tokens;
        }

        private boolean takes(String kind) {
            if (!tokens.get(next).kind.equals(kind)) {
                return false;
            }
            next++;
            return true;
        }

        private String word() {
            return tokens.get(next++).text;
        }

        private int number() {
            return Integer.parseInt(word());
        }

        List<PlainLayer> text() {
            List<PlainLayer> read = new ArrayList<>();
            while (takes("layer")) {
                read.add(layer());
            }
            return read;
        }

        private PlainLayer layer() {
            PlainLayer layer = new PlainLayer();
            layer.name = word();
            layer.limit = sum();
            next++;
            layer.retention = sum();
            layer.share = takes("share") ? number() : 100;
            layer.yearly = takes("yearly") ? sum() : null;
            layer.after = takes("after") ? sum() : null;
            layer.reinstate = takes("reinstate") ? number() : -1;
            while (takes("at")) {
                layer.ats.add(number());
            }
            if (takes("net")) {
                do {
                    next++;
                    layer.net.add(word());
                } while (tokens.get(next).kind.equals(","));
            }
            layer.when = takes("when") ? test() : null;
            next++;
            return layer;
        }

        private Test test() {
            Test left = both();
            while (takes("or")) {
                Test first = left;
                Test second = both();
                left = (l, y, a) -> first.of(l, y, a) || second.of(l, y, a);
            }
            return left;
        }

        private Test both() {
            Test left = single();
            while (takes("and")) {
                Test first = left;
                Test second = single();
                left = (l, y, a) -> first.of(l, y, a) && second.of(l, y, a);
            }
            return left;
        }

        private Test single() {
            if (takes("not")) {
                Test turned = single();
                return (l, y, a) -> !turned.of(l, y, a);
            }
            if (takes("[")) {
                Test inner = test();
                next++;
                return inner;
            }
            Sum left = sum();
            String sign = word();
            Sum right = sum();
            return (l, y, a) -> compare(sign, left.of(l, y, a), right.of(l, y, a));
        }

        private static boolean compare(String sign, int left, int right) {
            switch (sign) {
                case "<": return left < right;
                case ">": return left > right;
                case "=": return left == right;
                case "<=": return left <= right;
                default: return left >= right;
            }
        }

        private Sum sum() {
            Sum left = product();
            while (tokens.get(next).kind.equals("+") || tokens.get(next).kind.equals("-")) {
                boolean isPlus = word().equals("+");
                Sum first = left;
                Sum second = product();
                left = isPlus ? (l, y, a) -> first.of(l, y, a) + second.of(l, y, a)
                        : (l, y, a) -> first.of(l, y, a) - second.of(l, y, a);
            }
            return left;
        }

        private Sum product() {
            Sum left = value();
            while (tokens.get(next).kind.equals("*") || tokens.get(next).kind.equals("/")) {
                boolean isTimes = word().equals("*");
                Sum first = left;
                Sum second = value();
                left = isTimes ? (l, y, a) -> first.of(l, y, a) * second.of(l, y, a)
                        : (l, y, a) -> cut(first.of(l, y, a), second.of(l, y, a));
            }
            return left;
        }

        private static int cut(int left, int right) {
            return right == 0 ? 0 : BigInteger.valueOf(left).divide(BigInteger.valueOf(right)).intValue();
        }

        private Sum value() {
            Token token = tokens.get(next++);
            switch (token.kind) {
                case "line": return (l, y, a) -> l;
                case "year": return (l, y, a) -> y;
                case "amount": return (l, y, a) -> a;
                case "-": {
                    Sum turned = value();
                    return (l, y, a) -> -turned.of(l, y, a);
                }
                case "(": {
                    Sum inner = sum();
                    next++;
                    return inner;
                }
                case "min":
                case "max": {
                    next++;
                    Sum left = sum();
                    next++;
                    Sum right = sum();
                    next++;
                    return token.kind.equals("min") ? (l, y, a) -> Math.min(left.of(l, y, a), right.of(l, y, a))
                            : (l, y, a) -> Math.max(left.of(l, y, a), right.of(l, y, a));
                }
                default: {
                    int number = Integer.parseInt(token.text);
                    return (l, y, a) -> number;
                }
            }
        }
    }

    // ---- what layers bear

    private Reckoned reckon(int[] amounts, int without) {
        Reckoned reckoned = new Reckoned();
        reckoned.amounts = amounts;
        reckoned.bears = new int[layers.size()][claims.size()];
        reckoned.gets = new int[layers.size()][claims.size()];
        for (int k = 0; k < layers.size(); k++) {
            for (int year = 0; k != without && year <= 9; year++) {
                reckonYear(reckoned, k, year);
            }
        }
        return reckoned;
    }

    private void reckonYear(Reckoned reckoned, int k, int year) {
        PlainLayer layer = layers.get(k);
        BigInteger bound = layer.boundOf(year);
        int losses = 0;
        int borneAhead = 0;
        for (int i = 0; i < claims.size(); i++) {
            if (claims.get(i).year == year) {
                losses += loss(reckoned, k, i);
                BigInteger borne = BigInteger.valueOf(Math.max(losses - layer.afterOf(year), 0));
                int held = bound == null ? borne.intValueExact() : borne.min(bound).intValueExact();
                reckoned.bears[k][i] = held - borneAhead;
                reckoned.gets[k][i] = (held - borneAhead) * layer.share / 100;
                borneAhead = held;
            }
        }
    }

    private int loss(Reckoned reckoned, int k, int i) {
        PlainLayer layer = layers.get(k);
        PlainClaim claim = claims.get(i);
        int amount = reckoned.amounts[i];
        int subject = amount;
        for (int other = 0; other < k; other++) {
            subject -= layer.net.contains(layers.get(other).name) ? reckoned.gets[other][i] : 0;
        }
        subject = Math.max(subject, 0);
        if (layer.when != null && !layer.when.of(claim.line, claim.year, amount)) {
            return 0;
        }
        int retention = Math.max(layer.retention.of(claim.line, claim.year, amount), 0);
        int limit = Math.max(layer.limit.of(claim.line, claim.year, amount), 0);
        return subject <= retention ? 0 : Math.min(subject - retention, limit);
    }

    private int borne(Reckoned reckoned, int k, int year) {
        int borne = 0;
        for (int i = 0; i < claims.size(); i++) {
            borne += claims.get(i).year == year ? reckoned.bears[k][i] : 0;
        }
        return borne;
    }

    private int charged(Reckoned reckoned, int k, int year) {
        PlainLayer layer = layers.get(k);
        BigInteger rest = BigInteger.valueOf(borne(reckoned, k, year));
        BigInteger hundred = BigInteger.valueOf(100);
        BigInteger all = BigInteger.ZERO;
        for (int n = 0; n < layer.reinstate; n++) {
            BigInteger part = rest.min(layer.limitOf(year));
            rest = rest.subtract(part);
            int at = n < layer.ats.size() ? layer.ats.get(n) : 0;
            all = all.add(part.multiply(BigInteger.valueOf(at)).divide(hundred));
        }
        return all.multiply(BigInteger.valueOf(layer.share)).divide(hundred).intValueExact();
    }

    private int allCharged(Reckoned reckoned) {
        int all = 0;
        for (int k = 0; k < layers.size(); k++) {
            for (int year = 0; year <= 9; year++) {
                all += charged(reckoned, k, year);
            }
        }
        return all;
    }

    private int[] amounts(boolean isPaid) {
        return claims.stream().mapToInt(c -> isPaid ? c.paid : c.paid + c.reserve).toArray();
    }

    private Reckoned current(boolean isPaid) {
        return reckon(amounts(isPaid), -1);
    }

    // ---- claims

    private void index(boolean isThere) {
        if (!isThere) {
            throw new IndexOutOfBoundsException();
        }
    }

    private void argument(boolean isGood) {
        if (!isGood) {
            throw new IllegalArgumentException();
        }
    }

    private void state(boolean isGood) {
        if (!isGood) {
            throw new IllegalStateException();
        }
    }

    private static boolean isIn(int number, int least, int most) {
        return number >= least && number <= most;
    }

    private boolean hasClaim(int claim) {
        return isIn(claim, 0, claims.size() - 1);
    }

    private boolean hasLayer(int layer) {
        return isIn(layer, 0, layers.size() - 1);
    }

    public int count(int what) {
        index(isIn(what, 0, 8));
        switch (what) {
            case 0: return layers.size();
            case 1: return claims.size();
            case 2: return (int) claims.stream().filter(c -> c.isOpen).count();
            case 3: return now;
            case 4: return tape.length();
            case 5: return claims.stream().mapToInt(c -> c.paid).sum();
            case 6: return claims.stream().mapToInt(c -> c.reserve).sum();
            case 7: return current(false).allLeft();
            default: return allCharged(current(false));
        }
    }

    public int layer(int layer, int what) {
        index(hasLayer(layer) && isIn(what, 0, 7));
        PlainLayer told = layers.get(layer);
        switch (what) {
            case 0: return told.share;
            case 1: return told.reinstate;
            case 2: return told.yearly == null ? 0 : 1;
            case 3: {
                int net = 0;
                for (int k = 0; k < layers.size(); k++) {
                    net += told.net.contains(layers.get(k).name) ? (int) Math.pow(2, k) : 0;
                }
                return net;
            }
            default: return what - 4 < told.ats.size() ? told.ats.get(what - 4) : -1;
        }
    }

    public int terms(int layer, int year, int what) {
        index(hasLayer(layer) && isIn(year, 0, 9) && isIn(what, 0, 3));
        PlainLayer told = layers.get(layer);
        switch (what) {
            case 0: return told.limitOf(year).intValueExact();
            case 1: return Math.max(told.retention.of(0, year, 0), 0);
            case 2: return told.afterOf(year);
            default: return fit(told.boundOf(year));
        }
    }

    private static int fit(BigInteger bound) {
        return bound == null ? -1 : bound.min(BigInteger.valueOf(Integer.MAX_VALUE)).intValueExact();
    }

    public int open(int year, int line, int reserve) {
        argument(isIn(year, 0, now) && isIn(line, 0, 5) && isIn(reserve, 0, 1000000));
        state(claims.size() < 40);
        PlainClaim claim = new PlainClaim();
        claim.year = year;
        claim.line = line;
        claim.reserve = reserve;
        claims.add(claim);
        return claims.size() - 1;
    }

    public int pay(int claim, int amount) {
        index(hasClaim(claim));
        argument(isIn(amount, 1, 1000000));
        PlainClaim told = claims.get(claim);
        state(told.isOpen && told.paid + amount <= 1000000);
        told.paid += amount;
        told.reserve = told.reserve > amount ? told.reserve - amount : 0;
        return told.paid;
    }

    public int setReserve(int claim, int reserve) {
        index(hasClaim(claim));
        argument(isIn(reserve, 0, 1000000));
        state(claims.get(claim).isOpen);
        int before = claims.get(claim).reserve;
        claims.get(claim).reserve = reserve;
        return before;
    }

    public int close(int claim, boolean isClosed) {
        index(hasClaim(claim));
        PlainClaim told = claims.get(claim);
        int before = told.reserve;
        told.reserve = isClosed ? 0 : before;
        told.isOpen = !isClosed;
        return before;
    }

    public int claim(int claim, int what) {
        index(hasClaim(claim) && isIn(what, 0, 7));
        PlainClaim told = claims.get(claim);
        switch (what) {
            case 0: return told.year;
            case 1: return told.line;
            case 2: return told.paid;
            case 3: return told.reserve;
            case 4: return told.paid + told.reserve;
            case 5: return told.isOpen ? 1 : 0;
            case 6: return current(true).left(claim);
            default: return current(false).left(claim);
        }
    }

    public int at(int claim, int age, boolean isPaid) {
        index(hasClaim(claim) && isIn(age, 0, now - claims.get(claim).year));
        return known(claims.get(claim), age, isPaid);
    }

    private int known(PlainClaim claim, int age, boolean isPaid) {
        if (claim.year + age == now) {
            return isPaid ? claim.paid : claim.paid + claim.reserve;
        }
        int[] end = claim.ends.getOrDefault(claim.year + age, new int[2]);
        return end[isPaid ? 0 : 1];
    }

    public int gets(int layer, int claim, boolean isPaid) {
        index(hasLayer(layer) && hasClaim(claim));
        return current(isPaid).gets[layer][claim];
    }

    public int used(int layer, int year, int what) {
        index(hasLayer(layer) && isIn(year, 0, 9) && isIn(what, 0, 3));
        Reckoned reckoned = current(false);
        int borne = borne(reckoned, layer, year);
        BigInteger bound = layers.get(layer).boundOf(year);
        switch (what) {
            case 0: return borne;
            case 1: return bound == null ? -1 : fit(bound.subtract(BigInteger.valueOf(borne)));
            case 2: return charged(reckoned, layer, year);
            default: {
                int n = 0;
                for (int i = 0; i < claims.size(); i++) {
                    n += claims.get(i).year == year && reckoned.bears[layer][i] > 0 ? 1 : 0;
                }
                return n;
            }
        }
    }

    // ---- years and triangles

    public int nextYear() {
        state(now < 9);
        claims.forEach(c -> c.ends.put(now, new int[] {c.paid, c.paid + c.reserve}));
        now++;
        return now;
    }

    public int setPremium(int year, int premium, int expected) {
        index(isIn(year, 0, 9));
        argument(isIn(premium, 0, 10000000) && isIn(expected, 0, 200));
        int[] before = premiums.put(year, new int[] {premium, expected});
        return before == null ? 0 : before[0];
    }

    public int setTail(int tail) {
        argument(isIn(tail, 1000, 3000));
        int before = this.tail;
        this.tail = tail;
        return before;
    }

    public int triangle(int kind, int year, int age) {
        index(isIn(kind, 0, 3) && isIn(year, 0, now) && isIn(age, 0, now - year));
        boolean isPaid = kind == 0 || kind == 2;
        int[] amounts = claims.stream().mapToInt(c -> c.year == year ? known(c, age, isPaid) : 0).toArray();
        Reckoned reckoned = reckon(amounts, -1);
        int all = 0;
        for (int i = 0; i < amounts.length; i++) {
            if (claims.get(i).year == year) {
                all += kind < 2 ? amounts[i] : reckoned.left(i);
            }
        }
        return all;
    }

    public int factor(int kind, int age) {
        index(isIn(kind, 0, 3) && isIn(age, 0, 8));
        BigInteger at = BigInteger.ZERO;
        BigInteger next = BigInteger.ZERO;
        for (int year = 0; year <= now; year++) {
            if (now - year >= age + 1) {
                at = at.add(BigInteger.valueOf(triangle(kind, year, age)));
                next = next.add(BigInteger.valueOf(triangle(kind, year, age + 1)));
            }
        }
        if (at.signum() == 0) {
            return 1000;
        }
        return next.multiply(BigInteger.valueOf(1000)).divide(at).min(BigInteger.valueOf(1000000)).intValueExact();
    }

    public int ultimate(int kind, int year, boolean isGrowth) {
        index(isIn(kind, 0, 3) && isIn(year, 0, now));
        BigInteger value = BigInteger.valueOf(isGrowth ? 1000 : triangle(kind, year, now - year));
        for (int age = now - year; age <= 9; age++) {
            int factor = age == 9 ? tail : factor(kind, age);
            value = value.multiply(BigInteger.valueOf(factor)).divide(BigInteger.valueOf(1000));
            value = value.min(BigInteger.valueOf(2000000000));
        }
        return value.intValueExact();
    }

    public int reserve(int method, int year) {
        index(isIn(method, 0, 2) && isIn(year, 0, now));
        if (method < 2) {
            return ultimate(method, year, false) - triangle(0, year, now - year);
        }
        int growth = ultimate(0, year, true);
        int[] set = premiums.getOrDefault(year, new int[2]);
        if (growth == 0) {
            return 0;
        }
        BigInteger expected = BigInteger.valueOf(set[0]).multiply(BigInteger.valueOf(set[1])).divide(BigInteger.valueOf(100));
        BigInteger open = BigInteger.valueOf(1000 - 1000000 / growth);
        return expected.multiply(open).divide(BigInteger.valueOf(1000)).max(BigInteger.ZERO).intValueExact();
    }

    public int worst(int method) {
        index(isIn(method, 0, 2));
        int worst = 0;
        for (int year = now; year >= 0; year--) {
            worst = reserve(method, year) >= reserve(method, worst) && reserve(method, year) >= most(method) ? year : worst;
        }
        return worst;
    }

    private int most(int method) {
        int most = Integer.MIN_VALUE;
        for (int year = 0; year <= now; year++) {
            most = Math.max(most, reserve(method, year));
        }
        return most;
    }

    // ---- what would be

    private Reckoned withReserve(int claim, int reserve) {
        int[] amounts = amounts(false);
        amounts[claim] = claims.get(claim).paid + reserve;
        return reckon(amounts, -1);
    }

    public int would(int claim, int reserve, int what) {
        index(hasClaim(claim) && isIn(what, 0, 2));
        argument(isIn(reserve, 0, 1000000));
        Reckoned reckoned = withReserve(claim, reserve);
        return what == 0 ? reckoned.allLeft() : what == 1 ? reckoned.gotBy(claim) : allCharged(reckoned);
    }

    public int without(int layer) {
        index(hasLayer(layer));
        return reckon(amounts(false), layer).allLeft();
    }

    public int reaches(int claim, int layer) {
        index(hasClaim(claim) && hasLayer(layer));
        for (int n = 0; n <= 200; n++) {
            if (withReserve(claim, 5000 * n).bears[layer][claim] > 0) {
                return 5000 * n;
            }
        }
        return -1;
    }

    public int keenest() {
        int left = current(false).allLeft();
        int keenest = -1;
        for (int k = layers.size() - 1; k >= 0; k--) {
            boolean isKeen = without(k) > left && (keenest < 0 || without(k) >= without(keenest));
            keenest = isKeen ? k : keenest;
        }
        return keenest;
    }

    public double kept() {
        int incurred = count(5) + count(6);
        return incurred == 0 ? 1.0 : (double) count(7) / incurred;
    }

    public long digest() {
        List<Integer> told = new ArrayList<>();
        for (int what = 0; what <= 8; what++) {
            told.add(count(what));
        }
        for (int k = 0; k < layers.size(); k++) {
            for (int what = 0; what <= 7; what++) {
                told.add(layer(k, what));
            }
            for (int n = 0; n < 8 * (now + 1); n++) {
                told.add(n % 8 < 4 ? terms(k, n / 8, n % 4) : used(k, n / 8, n % 4));
            }
        }
        for (int i = 0; i < claims.size(); i++) {
            for (int what = 0; what <= 7; what++) {
                told.add(claim(i, what));
            }
            for (int age = 0; age <= now - claims.get(i).year; age++) {
                told.add(at(i, age, true));
                told.add(at(i, age, false));
            }
        }
        for (int year = 0; year <= now; year++) {
            told.add(premiums.getOrDefault(year, new int[2])[0]);
            told.add(premiums.getOrDefault(year, new int[2])[1]);
            for (int method = 0; method <= 2; method++) {
                told.add(reserve(method, year));
            }
        }
        for (int n = 0; n < 36; n++) {
            told.add(factor(n / 9, n % 9));
        }
        told.add(tail);
        long d = 641;
        for (int x : told) {
            d = d * 31 + x;
        }
        return d;
    }
}
