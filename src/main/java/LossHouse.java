import java.util.ArrayList;
import java.util.List;

/** A house that reserves the claims of an insurer. */
public final class LossHouse {
    private static final int MAX_TAPE = 2000;
    private static final int MAX_TOKENS = 400;
    private static final int MAX_DEPTH = 8;
    private static final int MAX_WORD = 10;
    private static final int MAX_DIGITS = 7;
    private static final int MAX_LAYERS = 8;
    private static final int MAX_REINSTATE = 4;
    private static final int MAX_AT = 300;
    private static final int MAX_CLAIMS = 40;
    private static final int MAX_LINE = 5;
    private static final int MAX_MONEY = 1000000;
    private static final int MAX_PREMIUM = 10000000;
    private static final int MAX_EXPECTED = 200;
    private static final int MAX_TAIL = 3000;
    private static final int MAX_FACTOR = 1000000;
    private static final int MAX_ULTIMATE = 2000000000;
    private static final int MAX_INT = 2147483647;
    private static final int YEARS = 10;
    private static final int KINDS = 4;
    private static final int METHODS = 3;
    private static final int RESERVE_STEP = 5000;
    private static final int NONE = -1;

    private final Tape tape = new Tape();
    private final Tokens tokens = new Tokens();
    private final Parser parser = new Parser(tokens);
    private final Checker checker = new Checker(tokens);
    private final ArrayList<Layer> layers = new ArrayList<>();
    private final ArrayList<Claim> claims = new ArrayList<>();
    private final Cession paidNow = new Cession(layers, claims);
    private final Cession incurredNow = new Cession(layers, claims);
    private final Cession trial = new Cession(layers, claims);
    private final Triangle[] triangles = {new Triangle(), new Triangle(), new Triangle(), new Triangle()};
    private final int[] premiums = new int[YEARS];
    private final int[] expecteds = new int[YEARS];
    private int now = 0;
    private int tail = 1000;
    private int errorPosition = NONE;

    public LossHouse() {
    }

    // ---- the language

    public int feed(int a, int b, int c, int d, int e) throws IllegalStateException {
        if (tape.length > MAX_TAPE - 20) {
            throw new IllegalStateException("the tape is full");
        }
        tape.append(a);
        tape.append(b);
        tape.append(c);
        tape.append(d);
        tape.append(e);
        return tape.length;
    }

    public int trim(int n) throws IllegalArgumentException {
        if (n < 0 || n > tape.length) {
            throw new IllegalArgumentException("not a number of bytes of the tape");
        }
        tape.length = n;
        return n;
    }

    public int teach() {
        tokens.read(tape);
        tape.length = 0;
        List<Layer> taught = parser.parse();
        int wrong = parser.wrongToken();
        int error = wrong == NONE ? 0 : 1;
        if (error == 0) {
            error = checker.check(taught);
            wrong = checker.wrongToken();
        }
        errorPosition = error == 0 ? NONE : tokens.startOf(wrong);
        if (error == 0) {
            adopt(taught);
        }
        return error;
    }

    public int errorAt() {
        return errorPosition;
    }

    public int count(int what) throws IndexOutOfBoundsException {
        if (what < 0 || what > 8) {
            throw new IndexOutOfBoundsException("what is not 0 to 8");
        }
        if (what >= 7) {
            cedeNow(incurredNow, false, NONE);
        }
        return countOf(what);
    }

    public int layer(int layer, int what) throws IndexOutOfBoundsException {
        if (!hasLayer(layer) || what < 0 || what > 7) {
            throw new IndexOutOfBoundsException("no such layer, or what is not 0 to 7");
        }
        return layers.get(layer).tell(what);
    }

    public int terms(int layer, int year, int what) throws IndexOutOfBoundsException {
        if (!hasLayer(layer) || !isYear(year) || what < 0 || what > 3) {
            throw new IndexOutOfBoundsException("no such layer or year, or what is not 0 to 3");
        }
        return layers.get(layer).tellYear(year, what);
    }

    // ---- claims

    public int open(int year, int line, int reserve) throws IllegalArgumentException, IllegalStateException {
        if (!isYearSoFar(year) || line < 0 || line > MAX_LINE || !isReserve(reserve)) {
            throw new IllegalArgumentException("not a year so far, a line, or a reserve");
        }
        if (claims.size() >= MAX_CLAIMS) {
            throw new IllegalStateException("there are 40 claims");
        }
        claims.add(new Claim(year, line, reserve));
        return claims.size() - 1;
    }

    public int pay(int claim, int amount) throws IndexOutOfBoundsException, IllegalArgumentException, IllegalStateException {
        if (!hasClaim(claim)) {
            throw new IndexOutOfBoundsException("no such claim");
        }
        if (amount < 1 || amount > MAX_MONEY) {
            throw new IllegalArgumentException("amount is not 1 to 1000000");
        }
        Claim told = claims.get(claim);
        if (!told.isOpen || told.paid + amount > MAX_MONEY) {
            throw new IllegalStateException("the claim is closed, or too much would be paid of it");
        }
        told.paid += amount;
        told.reserve = Math.max(told.reserve - amount, 0);
        return told.paid;
    }

    public int setReserve(int claim, int reserve) throws IndexOutOfBoundsException, IllegalArgumentException, IllegalStateException {
        if (!hasClaim(claim)) {
            throw new IndexOutOfBoundsException("no such claim");
        }
        if (!isReserve(reserve)) {
            throw new IllegalArgumentException("reserve is not 0 to 1000000");
        }
        Claim told = claims.get(claim);
        if (!told.isOpen) {
            throw new IllegalStateException("the claim is closed");
        }
        int before = told.reserve;
        told.reserve = reserve;
        return before;
    }

    public int close(int claim, boolean isClosed) throws IndexOutOfBoundsException {
        if (!hasClaim(claim)) {
            throw new IndexOutOfBoundsException("no such claim");
        }
        Claim told = claims.get(claim);
        int before = told.reserve;
        told.isOpen = !isClosed;
        if (isClosed) {
            told.reserve = 0;
        }
        return before;
    }

    public int claim(int claim, int what) throws IndexOutOfBoundsException {
        if (!hasClaim(claim) || what < 0 || what > 7) {
            throw new IndexOutOfBoundsException("no such claim, or what is not 0 to 7");
        }
        if (what == 6) {
            cedeNow(paidNow, true, NONE);
        } else if (what == 7) {
            cedeNow(incurredNow, false, NONE);
        }
        return claimOf(claim, what);
    }

    public int at(int claim, int age, boolean isPaid) throws IndexOutOfBoundsException {
        if (!hasClaim(claim) || age < 0 || age > now - claims.get(claim).year) {
            throw new IndexOutOfBoundsException("no such claim, or no age of its year");
        }
        return claims.get(claim).known(age, now, isPaid);
    }

    public int gets(int layer, int claim, boolean isPaid) throws IndexOutOfBoundsException {
        if (!hasLayer(layer) || !hasClaim(claim)) {
            throw new IndexOutOfBoundsException("no such layer or claim");
        }
        Cession cession = isPaid ? paidNow : incurredNow;
        cedeNow(cession, isPaid, NONE);
        return cession.given(layer, claim);
    }

    public int used(int layer, int year, int what) throws IndexOutOfBoundsException {
        if (!hasLayer(layer) || !isYear(year) || what < 0 || what > 3) {
            throw new IndexOutOfBoundsException("no such layer or year, or what is not 0 to 3");
        }
        cedeNow(incurredNow, false, NONE);
        return usedOf(layer, year, what);
    }

    // ---- years and triangles

    public int nextYear() throws IllegalStateException {
        if (now >= YEARS - 1) {
            throw new IllegalStateException("the year 9 is now");
        }
        for (int i = 0; i < claims.size(); i++) {
            claims.get(i).writeDown(now);
        }
        now++;
        return now;
    }

    public int setPremium(int year, int premium, int expected) throws IndexOutOfBoundsException, IllegalArgumentException {
        if (!isYear(year)) {
            throw new IndexOutOfBoundsException("year is not 0 to 9");
        }
        if (premium < 0 || premium > MAX_PREMIUM || expected < 0 || expected > MAX_EXPECTED) {
            throw new IllegalArgumentException("premium is not 0 to 10000000, or expected is not 0 to 200");
        }
        int before = premiums[year];
        premiums[year] = premium;
        expecteds[year] = expected;
        return before;
    }

    public int setTail(int tail) throws IllegalArgumentException {
        if (tail < 1000 || tail > MAX_TAIL) {
            throw new IllegalArgumentException("tail is not 1000 to 3000");
        }
        int before = this.tail;
        this.tail = tail;
        return before;
    }

    public int triangle(int kind, int year, int age) throws IndexOutOfBoundsException {
        if (!isKind(kind) || !isYearSoFar(year) || age < 0 || age > now - year) {
            throw new IndexOutOfBoundsException("no such kind or year so far, or no age of it");
        }
        fillTriangle(kind);
        return triangles[kind].cells[year][age];
    }

    public int factor(int kind, int age) throws IndexOutOfBoundsException {
        if (!isKind(kind) || age < 0 || age > YEARS - 2) {
            throw new IndexOutOfBoundsException("kind is not 0 to 3, or age is not 0 to 8");
        }
        fillTriangle(kind);
        return triangles[kind].factorAt(age);
    }

    public int ultimate(int kind, int year, boolean isGrowth) throws IndexOutOfBoundsException {
        if (!isKind(kind) || !isYearSoFar(year)) {
            throw new IndexOutOfBoundsException("kind is not 0 to 3, or not a year so far");
        }
        fillTriangle(kind);
        return isGrowth ? triangles[kind].growthOf(year, tail) : triangles[kind].ultimateOf(year, tail);
    }

    public int reserve(int method, int year) throws IndexOutOfBoundsException {
        if (!isMethod(method) || !isYearSoFar(year)) {
            throw new IndexOutOfBoundsException("method is not 0 to 2, or not a year so far");
        }
        fillTriangle(0);
        fillTriangle(1);
        return reserveOf(method, year);
    }

    public int worst(int method) throws IndexOutOfBoundsException {
        if (!isMethod(method)) {
            throw new IndexOutOfBoundsException("method is not 0 to 2");
        }
        fillTriangle(0);
        fillTriangle(1);
        int worst = 0;
        int most = reserveOf(method, 0);
        for (int year = 1; year <= now; year++) {
            int reserve = reserveOf(method, year);
            if (reserve > most) {
                worst = year;
                most = reserve;
            }
        }
        return worst;
    }

    // ---- what would be

    public int would(int claim, int reserve, int what) throws IndexOutOfBoundsException, IllegalArgumentException {
        if (!hasClaim(claim) || what < 0 || what > 2) {
            throw new IndexOutOfBoundsException("no such claim, or what is not 0 to 2");
        }
        if (!isReserve(reserve)) {
            throw new IllegalArgumentException("reserve is not 0 to 1000000");
        }
        tellAmounts(trial, false);
        trial.amounts[claim] = claims.get(claim).paid + reserve;
        trial.cedeAhead(claims.size(), NONE);
        if (what == 0) {
            return trial.allLeft();
        }
        return what == 1 ? trial.allGiven(claim) : trial.allCharged();
    }

    public int without(int layer) throws IndexOutOfBoundsException {
        if (!hasLayer(layer)) {
            throw new IndexOutOfBoundsException("no such layer");
        }
        cedeNow(trial, false, layer);
        return trial.allLeft();
    }

    public int reaches(int claim, int layer) throws IndexOutOfBoundsException {
        if (!hasClaim(claim) || !hasLayer(layer)) {
            throw new IndexOutOfBoundsException("no such claim or layer");
        }
        tellAmounts(trial, false);
        trial.cedeAhead(claim, NONE);
        int paid = claims.get(claim).paid;
        for (int reserve = 0; reserve <= MAX_MONEY; reserve += RESERVE_STEP) {
            trial.amounts[claim] = paid + reserve;
            trial.cede(claim, NONE);
            if (trial.bears[claim][layer] > 0) {
                return reserve;
            }
        }
        return NONE;
    }

    public int keenest() {
        cedeNow(trial, false, NONE);
        int most = trial.allLeft();
        int keenest = NONE;
        for (int k = 0; k < layers.size(); k++) {
            cedeNow(trial, false, k);
            int left = trial.allLeft();
            if (left > most) {
                most = left;
                keenest = k;
            }
        }
        return keenest;
    }

    public double kept() {
        cedeNow(incurredNow, false, NONE);
        int incurred = 0;
        for (int i = 0; i < claims.size(); i++) {
            incurred += incurredNow.amounts[i];
        }
        return incurred == 0 ? 1 : (double) incurredNow.allLeft() / (double) incurred;
    }

    public long digest() {
        cedeNow(paidNow, true, NONE);
        cedeNow(incurredNow, false, NONE);
        for (int kind = 0; kind < KINDS; kind++) {
            fillTriangle(kind);
        }
        long d = 641;
        for (int what = 0; what <= 8; what++) {
            d = mix(d, countOf(what));
        }
        d = mixLayers(d);
        d = mixClaims(d);
        d = mixYears(d);
        d = mixFactors(d);
        return mix(d, tail);
    }

    // ---- what the face asks for, reckoned ahead of it

    private boolean hasLayer(int layer) {
        return layer >= 0 && layer < layers.size();
    }

    private boolean hasClaim(int claim) {
        return claim >= 0 && claim < claims.size();
    }

    private boolean isYear(int year) {
        return year >= 0 && year < YEARS;
    }

    private boolean isYearSoFar(int year) {
        return year >= 0 && year <= now;
    }

    private boolean isReserve(int reserve) {
        return reserve >= 0 && reserve <= MAX_MONEY;
    }

    private boolean isKind(int kind) {
        return kind >= 0 && kind < KINDS;
    }

    private boolean isMethod(int method) {
        return method >= 0 && method < METHODS;
    }

    private void adopt(List<Layer> taught) {
        layers.clear();
        for (int k = 0; k < taught.size(); k++) {
            taught.get(k).settleYears();
            layers.add(taught.get(k));
        }
    }

    private void tellAmounts(Cession cession, boolean isPaid) {
        for (int i = 0; i < claims.size(); i++) {
            Claim claim = claims.get(i);
            cession.amounts[i] = claim.known(now - claim.year, now, isPaid);
        }
    }

    private void cedeNow(Cession cession, boolean isPaid, int muted) {
        tellAmounts(cession, isPaid);
        cession.cedeAhead(claims.size(), muted);
    }

    /** Kinds 2 and 3 are what the layers leave of kinds 0 and 1. */
    private void fillTriangle(int kind) {
        Triangle triangle = triangles[kind];
        triangle.begin(now);
        for (int age = 0; age <= now; age++) {
            tellAmountsAt(age, kind % 2 == 0);
            if (kind >= 2) {
                trial.cedeAhead(claims.size(), NONE);
            }
            for (int i = 0; i < claims.size(); i++) {
                int year = claims.get(i).year;
                if (age <= now - year) {
                    triangle.cells[year][age] += kind >= 2 ? trial.leftOf(i) : trial.amounts[i];
                }
            }
        }
    }

    /** Claims whose year has not come to the age yet have the amount 0, and so take nothing from the layers. */
    private void tellAmountsAt(int age, boolean isPaid) {
        for (int i = 0; i < claims.size(); i++) {
            Claim claim = claims.get(i);
            trial.amounts[i] = age <= now - claim.year ? claim.known(age, now, isPaid) : 0;
        }
    }

    private int countOf(int what) {
        switch (what) {
            case 0: return layers.size();
            case 1: return claims.size();
            case 2: return openClaims();
            case 3: return now;
            case 4: return tape.length;
            case 5: return allPaid();
            case 6: return allReserves();
            case 7: return incurredNow.allLeft();
            default: return incurredNow.allCharged();
        }
    }

    private int openClaims() {
        int open = 0;
        for (int i = 0; i < claims.size(); i++) {
            open += claims.get(i).isOpen ? 1 : 0;
        }
        return open;
    }

    private int allPaid() {
        int paid = 0;
        for (int i = 0; i < claims.size(); i++) {
            paid += claims.get(i).paid;
        }
        return paid;
    }

    private int allReserves() {
        int reserves = 0;
        for (int i = 0; i < claims.size(); i++) {
            reserves += claims.get(i).reserve;
        }
        return reserves;
    }

    private int claimOf(int i, int what) {
        Claim claim = claims.get(i);
        switch (what) {
            case 0: return claim.year;
            case 1: return claim.line;
            case 2: return claim.paid;
            case 3: return claim.reserve;
            case 4: return claim.paid + claim.reserve;
            case 5: return claim.isOpen ? 1 : 0;
            case 6: return paidNow.leftOf(i);
            default: return incurredNow.leftOf(i);
        }
    }

    private int usedOf(int layer, int year, int what) {
        switch (what) {
            case 0: return incurredNow.borneIn(layer, year);
            case 1: return layers.get(layer).roomIn(year, incurredNow.borneIn(layer, year));
            case 2: return incurredNow.chargedIn(layer, year);
            default: return incurredNow.borneClaims(layer, year);
        }
    }

    /** Reads the triangles of the kinds 0 and 1, which have to be filled. */
    private int reserveOf(int method, int year) {
        int paid = triangles[0].nowOf(year);
        if (method == 0) {
            return triangles[0].ultimateOf(year, tail) - paid;
        }
        if (method == 1) {
            return triangles[1].ultimateOf(year, tail) - paid;
        }
        int growth = triangles[0].growthOf(year, tail);
        if (growth == 0) {
            return 0;
        }
        long expected = (long) premiums[year] * expecteds[year] / 100;
        long reserve = expected * (1000 - 1000000 / growth) / 1000;
        return (int) Math.max(reserve, 0L);
    }

    private long mix(long d, long x) {
        return d * 31 + x;
    }

    private long mixLayers(long start) {
        long d = start;
        for (int k = 0; k < layers.size(); k++) {
            for (int what = 0; what <= 7; what++) {
                d = mix(d, layers.get(k).tell(what));
            }
            for (int year = 0; year <= now; year++) {
                for (int what = 0; what <= 3; what++) {
                    d = mix(d, layers.get(k).tellYear(year, what));
                }
                for (int what = 0; what <= 3; what++) {
                    d = mix(d, usedOf(k, year, what));
                }
            }
        }
        return d;
    }

    private long mixClaims(long start) {
        long d = start;
        for (int i = 0; i < claims.size(); i++) {
            for (int what = 0; what <= 7; what++) {
                d = mix(d, claimOf(i, what));
            }
            Claim claim = claims.get(i);
            for (int age = 0; age <= now - claim.year; age++) {
                d = mix(d, claim.known(age, now, true));
                d = mix(d, claim.known(age, now, false));
            }
        }
        return d;
    }

    private long mixYears(long start) {
        long d = start;
        for (int year = 0; year <= now; year++) {
            d = mix(d, premiums[year]);
            d = mix(d, expecteds[year]);
            for (int method = 0; method < METHODS; method++) {
                d = mix(d, reserveOf(method, year));
            }
        }
        return d;
    }

    private long mixFactors(long start) {
        long d = start;
        for (int kind = 0; kind < KINDS; kind++) {
            for (int age = 0; age <= YEARS - 2; age++) {
                d = mix(d, triangles[kind].factorAt(age));
            }
        }
        return d;
    }

    // ---- the parts of the house

    /** What tokens are of, and of what the steps of a formula are; operands tells how many values a step takes. */
    private enum Sign {
        LAYER("layer", 0), XS("xs", 0), SHARE("share", 0), YEARLY("yearly", 0), AFTER("after", 0),
        REINSTATE("reinstate", 0), AT("at", 0), NET("net", 0), OF("of", 0), WHEN("when", 0),
        AND("and", 2), OR("or", 2), NOT("not", 1), MIN("min", 2), MAX("max", 2),
        LINE("line", 0), YEAR("year", 0), AMOUNT("amount", 0),
        ROUND("(", 0), ROUND_END(")", 0), SQUARE("[", 0), SQUARE_END("]", 0), SEMICOLON(";", 0), COMMA(",", 0),
        PLUS("+", 2), MINUS("-", 2), TIMES("*", 2), OVER("/", 2),
        LESS("<", 2), GREATER(">", 2), EQUAL("=", 2), AT_MOST("<=", 2), AT_LEAST(">=", 2),
        NAME("", 0), NUMBER("", 0), TURNED("", 1), END("", 0), WRONG("", 0);

        final String text;
        final int operands;

        Sign(String text, int operands) {
            this.text = text;
            this.operands = operands;
        }

        boolean isComparison() {
            return this == LESS || this == GREATER || this == EQUAL || this == AT_MOST || this == AT_LEAST;
        }
    }

    /** The bytes that feed and trim fill. */
    private static final class Tape {
        private final byte[] bytes = new byte[MAX_TAPE];
        int length = 0;

        void append(int number) {
            for (int shift = 24; shift >= 0; shift -= 8) {
                if (length >= 0 && length < bytes.length) {
                    bytes[length] = (byte) (number >> shift);
                    length++;
                }
            }
        }

        int byteAt(int position) {
            boolean isInside = position >= 0 && position < length && position < bytes.length;
            return isInside ? bytes[position] & 255 : NONE;
        }

        boolean isLetter(int position) {
            int b = byteAt(position);
            return b >= 'a' && b <= 'z';
        }

        boolean isDigit(int position) {
            int b = byteAt(position);
            return b >= '0' && b <= '9';
        }

        int behindBlanks(int from) {
            int position = from;
            while (position < length && (byteAt(position) == ' ' || byteAt(position) == '\n')) {
                position++;
            }
            return position;
        }

        int behindDigits(int from) {
            int position = from;
            while (position < length && isDigit(position)) {
                position++;
            }
            return position;
        }

        int behindWord(int from) {
            int position = from;
            while (position < length && (isLetter(position) || isDigit(position))) {
                position++;
            }
            return position;
        }

        boolean spells(String text, int start, int end) {
            if (text.length() != end - start) {
                return false;
            }
            for (int i = 0; i < text.length(); i++) {
                if (byteAt(start + i) != text.charAt(i)) {
                    return false;
                }
            }
            return true;
        }

        /** At most 7 digits, so it fits. */
        int numberAt(int start, int end) {
            int number = 0;
            for (int i = start; i < end; i++) {
                number = number * 10 + byteAt(i) - '0';
            }
            return number;
        }

        /** Another number for each word: at most 10 signs, told to the base 37, fit into 64 bits. */
        long wordAt(int start, int end) {
            long word = 0;
            for (int i = start; i < end; i++) {
                int digit = isLetter(i) ? byteAt(i) - 'a' + 1 : byteAt(i) - '0' + 27;
                word = word * 37 + digit;
            }
            return word;
        }
    }

    /** The tokens of a tape; the last one is the end of the tape, or the first one that can be in no text. */
    private static final class Tokens {
        private static final Sign[] SIGNS = Sign.values();

        private final Sign[] signs = new Sign[MAX_TOKENS + 1];
        private final int[] starts = new int[MAX_TOKENS + 1];
        private final int[] numbers = new int[MAX_TOKENS + 1];
        private final long[] words = new long[MAX_TOKENS + 1];
        int count = 0;

        void read(Tape tape) {
            count = 0;
            int next = 0;
            for (int i = 0; i <= MAX_TOKENS; i++) {
                int start = tape.behindBlanks(next);
                int end = endOf(tape, start);
                Sign sign = signOf(tape, start, end);
                if (i == MAX_TOKENS && sign != Sign.END) {
                    sign = Sign.WRONG;
                }
                signs[i] = sign;
                starts[i] = start;
                numbers[i] = sign == Sign.NUMBER ? tape.numberAt(start, end) : 0;
                words[i] = sign == Sign.NAME ? tape.wordAt(start, end) : 0;
                count = i + 1;
                next = end;
                if (sign == Sign.END || sign == Sign.WRONG) {
                    return;
                }
            }
        }

        private int endOf(Tape tape, int start) {
            if (tape.isLetter(start)) {
                return tape.behindWord(start);
            }
            if (tape.isDigit(start)) {
                return tape.behindDigits(start);
            }
            return keyword(tape, start, start + 2) == Sign.WRONG ? start + 1 : start + 2;
        }

        private Sign signOf(Tape tape, int start, int end) {
            if (start >= tape.length) {
                return Sign.END;
            }
            if (tape.isDigit(start)) {
                return end - start > MAX_DIGITS ? Sign.WRONG : Sign.NUMBER;
            }
            Sign keyword = keyword(tape, start, end);
            boolean isName = keyword == Sign.WRONG && tape.isLetter(start) && end - start <= MAX_WORD;
            return isName ? Sign.NAME : keyword;
        }

        private Sign keyword(Tape tape, int start, int end) {
            for (int i = 0; i < SIGNS.length; i++) {
                if (tape.spells(SIGNS[i].text, start, end)) {
                    return SIGNS[i];
                }
            }
            return Sign.WRONG;
        }

        Sign signAt(int token) {
            return token >= 0 && token < count && token < signs.length ? signs[token] : Sign.WRONG;
        }

        int startOf(int token) {
            return token >= 0 && token < starts.length ? starts[token] : NONE;
        }

        int numberAt(int token) {
            return token >= 0 && token < numbers.length ? numbers[token] : 0;
        }

        long wordAt(int token) {
            return token >= 0 && token < words.length ? words[token] : 0;
        }
    }

    /**
     * A sum or a test, told by steps that take their operands from a stack: so a long chain of operators
     * needs no deep recursion to be reckoned.
     */
    private static final class Formula {
        private final Sign[] steps;
        private final int[] numbers;
        private final int[] stack;

        Formula(Sign[] allSteps, int[] allNumbers, int told) {
            int count = Math.max(0, Math.min(told, Math.min(allSteps.length, allNumbers.length)));
            steps = new Sign[count];
            numbers = new int[count];
            stack = new int[count];
            for (int i = 0; i < count; i++) {
                steps[i] = allSteps[i];
                numbers[i] = allNumbers[i];
            }
        }

        /** A test is 1 if it holds, else 0. */
        int value(int line, int year, int amount) {
            int height = 0;
            for (int i = 0; i < steps.length; i++) {
                Sign step = steps[i];
                if (step.operands == 2 && height >= 2) {
                    height--;
                    stack[height - 1] = join(step, stack[height - 1], stack[height]);
                } else if (step.operands == 1 && height >= 1) {
                    stack[height - 1] = step == Sign.NOT ? 1 - stack[height - 1] : -stack[height - 1];
                } else if (height < stack.length) {
                    stack[height] = leaf(step, numbers[i], line, year, amount);
                    height++;
                }
            }
            return height > 0 ? stack[0] : 0;
        }

        /** What it tells of a year by itself, where nothing below 0 counts. */
        int valueOfYear(int year) {
            return Math.max(value(0, year, 0), 0);
        }

        private int leaf(Sign step, int number, int line, int year, int amount) {
            switch (step) {
                case LINE: return line;
                case YEAR: return year;
                case AMOUNT: return amount;
                default: return number;
            }
        }

        private int join(Sign step, int left, int right) {
            switch (step) {
                case PLUS: return left + right;
                case MINUS: return left - right;
                case TIMES: return left * right;
                case OVER: return right == 0 ? 0 : left / right;
                case MIN: return left < right ? left : right;
                case MAX: return left > right ? left : right;
                case LESS: return left < right ? 1 : 0;
                case GREATER: return left > right ? 1 : 0;
                case EQUAL: return left == right ? 1 : 0;
                case AT_MOST: return left <= right ? 1 : 0;
                case AT_LEAST: return left >= right ? 1 : 0;
                case AND: return left & right;
                case OR: return left | right;
                default: return 0;
            }
        }
    }

    /**
     * Reads tokens by the grammar. Its sign is that of the next token, and WRONG for good from the first wrong token
     * on: then nothing is taken any more, so the reading ends there.
     */
    private static final class Parser {
        private final Tokens tokens;
        private final Sign[] steps = new Sign[MAX_TOKENS];
        private final int[] numbers = new int[MAX_TOKENS];
        private int stepCount = 0;
        private int next = 0;
        private Sign sign = Sign.WRONG;

        Parser(Tokens tokens) {
            this.tokens = tokens;
        }

        /** Tells the layers' formulas; their names and numbers are left to the checker. */
        List<Layer> parse() {
            next = 0;
            sign = tokens.signAt(0);
            ArrayList<Layer> read = new ArrayList<>();
            for (int i = 0; i < MAX_TOKENS && takes(Sign.LAYER); i++) {
                read.add(readLayer());
            }
            if (sign != Sign.END) {
                sign = Sign.WRONG;
            }
            return read;
        }

        int wrongToken() {
            return sign == Sign.WRONG ? next : NONE;
        }

        private Layer readLayer() {
            need(Sign.NAME);
            Formula limit = readSum();
            need(Sign.XS);
            Layer layer = new Layer(limit, readSum());
            if (takes(Sign.SHARE)) {
                need(Sign.NUMBER);
            }
            if (takes(Sign.YEARLY)) {
                layer.yearly = readSum();
            }
            if (takes(Sign.AFTER)) {
                layer.after = readSum();
            }
            if (takes(Sign.REINSTATE)) {
                need(Sign.NUMBER);
                needEach(Sign.AT, Sign.NUMBER);
            }
            if (takes(Sign.NET)) {
                need(Sign.OF);
                need(Sign.NAME);
                needEach(Sign.COMMA, Sign.NAME);
            }
            if (takes(Sign.WHEN)) {
                layer.when = readTest();
            }
            need(Sign.SEMICOLON);
            return layer;
        }

        private boolean takes(Sign wanted) {
            if (sign != wanted || sign == Sign.WRONG) {
                return false;
            }
            next++;
            sign = tokens.signAt(next);
            return true;
        }

        private boolean takesDeeper(Sign wanted, int depth) {
            return depth < MAX_DEPTH && takes(wanted);
        }

        private void need(Sign wanted) {
            if (!takes(wanted)) {
                sign = Sign.WRONG;
            }
        }

        private void needEach(Sign ahead, Sign wanted) {
            for (int i = 0; i < MAX_TOKENS && takes(ahead); i++) {
                need(wanted);
            }
        }

        private void step(Sign told, int number) {
            if (stepCount >= 0 && stepCount < steps.length && stepCount < numbers.length) {
                steps[stepCount] = told;
                numbers[stepCount] = number;
                stepCount++;
            }
        }

        private Formula readSum() {
            stepCount = 0;
            sum(0);
            return new Formula(steps, numbers, stepCount);
        }

        private Formula readTest() {
            stepCount = 0;
            test(0);
            return new Formula(steps, numbers, stepCount);
        }

        private void test(int depth) {
            both(depth);
            for (int i = 0; i < MAX_TOKENS && takes(Sign.OR); i++) {
                both(depth);
                step(Sign.OR, 0);
            }
        }

        private void both(int depth) {
            single(depth);
            for (int i = 0; i < MAX_TOKENS && takes(Sign.AND); i++) {
                single(depth);
                step(Sign.AND, 0);
            }
        }

        private void single(int depth) {
            if (takesDeeper(Sign.NOT, depth)) {
                single(depth + 1);
                step(Sign.NOT, 0);
            } else if (takesDeeper(Sign.SQUARE, depth)) {
                test(depth + 1);
                need(Sign.SQUARE_END);
            } else {
                sum(depth);
                Sign comparison = sign;
                if (!comparison.isComparison()) {
                    sign = Sign.WRONG;
                }
                takes(comparison);
                sum(depth);
                step(comparison, 0);
            }
        }

        private void sum(int depth) {
            product(depth);
            for (int i = 0; i < MAX_TOKENS && (sign == Sign.PLUS || sign == Sign.MINUS); i++) {
                Sign operator = sign;
                takes(operator);
                product(depth);
                step(operator, 0);
            }
        }

        private void product(int depth) {
            value(depth);
            for (int i = 0; i < MAX_TOKENS && (sign == Sign.TIMES || sign == Sign.OVER); i++) {
                Sign operator = sign;
                takes(operator);
                value(depth);
                step(operator, 0);
            }
        }

        private void value(int depth) {
            Sign first = sign;
            if (first == Sign.NUMBER || first == Sign.LINE || first == Sign.YEAR || first == Sign.AMOUNT) {
                step(first, tokens.numberAt(next));
                takes(first);
            } else if (takesDeeper(Sign.MINUS, depth)) {
                value(depth + 1);
                step(Sign.TURNED, 0);
            } else if (takesDeeper(Sign.ROUND, depth)) {
                sum(depth + 1);
                need(Sign.ROUND_END);
            } else if (takes(Sign.MIN) || takes(Sign.MAX)) {
                pair(depth);
                step(first, 0);
            } else {
                sign = Sign.WRONG;
            }
        }

        private void pair(int depth) {
            if (takesDeeper(Sign.ROUND, depth)) {
                sum(depth + 1);
                need(Sign.COMMA);
                sum(depth + 1);
                need(Sign.ROUND_END);
            } else {
                sign = Sign.WRONG;
            }
        }
    }

    /** Looks at the names and numbers of a text without error 1 from left to right, and tells them to its layers. */
    private static final class Checker {
        private final Tokens tokens;
        private final long[] names = new long[MAX_LAYERS];
        private int count = 0;
        private int wrong = NONE;

        Checker(Tokens tokens) {
            this.tokens = tokens;
        }

        /** Returns 0, or the error, 2 to 5. */
        int check(List<Layer> layers) {
            count = 0;
            wrong = NONE;
            for (int i = 1; i < tokens.count; i++) {
                int error = errorOf(i, layers);
                if (error != 0) {
                    wrong = i;
                    return error;
                }
            }
            return 0;
        }

        int wrongToken() {
            return wrong;
        }

        private int errorOf(int token, List<Layer> layers) {
            Sign ahead = tokens.signAt(token - 1);
            boolean isName = tokens.signAt(token) == Sign.NAME;
            if (isName && ahead == Sign.LAYER) {
                return nameLayer(tokens.wordAt(token));
            }
            if (count < 1 || count > layers.size()) {
                return 0;
            }
            Layer layer = layers.get(count - 1);
            if (isName) {
                return netError(layer, tokens.wordAt(token));
            }
            int number = tokens.numberAt(token);
            switch (ahead) {
                case SHARE: return layer.takesShare(number) ? 0 : 5;
                case REINSTATE: return layer.takesReinstate(number) ? 0 : 5;
                case AT: return layer.takesAt(number) ? 0 : 5;
                default: return 0;
            }
        }

        private int nameLayer(long name) {
            if (layerNamed(name, count) != NONE) {
                return 2;
            }
            if (count < 0 || count >= names.length) {
                return 4;
            }
            names[count] = name;
            count++;
            return 0;
        }

        private int netError(Layer layer, long name) {
            int of = layerNamed(name, count - 1);
            if (of == NONE) {
                return 3;
            }
            layer.net |= 1 << of;
            return 0;
        }

        private int layerNamed(long name, int among) {
            for (int k = 0; k < among && k < names.length; k++) {
                if (names[k] == name) {
                    return k;
                }
            }
            return NONE;
        }
    }

    /** A layer of reinsurance, with its terms by years. */
    private static final class Layer {
        private final Formula limit;
        private final Formula retention;
        private Formula yearly = null;
        private Formula after = null;
        private Formula when = null;
        private int share = 100;
        private int reinstate = NONE;
        private final int[] ats = {NONE, NONE, NONE, NONE};
        private int atCount = 0;
        private int net = 0;
        private final int[] yearLimits = new int[YEARS];
        private final int[] yearRetentions = new int[YEARS];
        private final int[] yearAfters = new int[YEARS];
        private final long[] yearBounds = new long[YEARS];

        Layer(Formula limit, Formula retention) {
            this.limit = limit;
            this.retention = retention;
        }

        boolean takesShare(int number) {
            share = number;
            return number >= 1 && number <= 100;
        }

        boolean takesReinstate(int number) {
            reinstate = number;
            return number <= MAX_REINSTATE;
        }

        boolean takesAt(int number) {
            if (number > MAX_AT || atCount >= reinstate || atCount >= ats.length) {
                return false;
            }
            ats[atCount] = number;
            atCount++;
            return true;
        }

        void settleYears() {
            for (int year = 0; year < YEARS; year++) {
                yearLimits[year] = limit.valueOfYear(year);
                yearRetentions[year] = retention.valueOfYear(year);
                yearAfters[year] = after == null ? 0 : after.valueOfYear(year);
                yearBounds[year] = boundOf(year);
            }
        }

        private long boundOf(int year) {
            long bound = NONE;
            if (yearly != null) {
                bound = yearly.valueOfYear(year);
            }
            if (reinstate != NONE) {
                long reinstated = (long) yearLimits[year] * (1 + reinstate);
                bound = bound == NONE ? reinstated : Math.min(bound, reinstated);
            }
            return bound;
        }

        int tell(int what) {
            switch (what) {
                case 0: return share;
                case 1: return reinstate;
                case 2: return yearly == null ? 0 : 1;
                case 3: return net;
                default: return what >= 4 && what < 4 + ats.length ? ats[what - 4] : NONE;
            }
        }

        int tellYear(int year, int what) {
            switch (what) {
                case 0: return yearLimits[year];
                case 1: return yearRetentions[year];
                case 2: return yearAfters[year];
                default: return (int) Math.min(yearBounds[year], (long) MAX_INT);
            }
        }

        boolean isNetOf(int layer) {
            return (net >> layer & 1) == 1;
        }

        int lossOf(Claim claim, int amount, int subject) {
            if (when != null && when.value(claim.line, claim.year, amount) == 0) {
                return 0;
            }
            int beyond = subject - Math.max(retention.value(claim.line, claim.year, amount), 0);
            int atMost = Math.max(limit.value(claim.line, claim.year, amount), 0);
            return Math.min(Math.max(beyond, 0), atMost);
        }

        int borneOf(int year, int losses) {
            int beyond = Math.max(losses - yearAfters[year], 0);
            long bound = yearBounds[year];
            return bound == NONE ? beyond : (int) Math.min((long) beyond, bound);
        }

        int shareOf(int borne) {
            return (int) ((long) borne * share / 100);
        }

        int roomIn(int year, int borne) {
            long bound = yearBounds[year];
            return bound == NONE ? NONE : (int) Math.min(bound - borne, (long) MAX_INT);
        }

        int chargeOf(int year, int borne) {
            long limitOfYear = yearLimits[year];
            long charged = 0;
            for (int k = 0; k < atCount && k < ats.length; k++) {
                long part = Math.max(Math.min(borne - k * limitOfYear, limitOfYear), 0L);
                charged += part * ats[k] / 100;
            }
            return (int) (charged * share / 100);
        }
    }

    /** A claim, with what was written down of it at the ends of years. */
    private static final class Claim {
        final int year;
        final int line;
        int paid = 0;
        int reserve;
        boolean isOpen = true;
        private final int[] paidAt = new int[YEARS];
        private final int[] incurredAt = new int[YEARS];

        Claim(int year, int line, int reserve) {
            this.year = year;
            this.line = line;
            this.reserve = reserve;
        }

        void writeDown(int now) {
            int age = now - year;
            if (age >= 0 && age < YEARS) {
                paidAt[age] = paid;
                incurredAt[age] = paid + reserve;
            }
        }

        int known(int age, int now, boolean isPaid) {
            if (age < 0 || age >= now - year || age >= YEARS) {
                return isPaid ? paid : paid + reserve;
            }
            return isPaid ? paidAt[age] : incurredAt[age];
        }
    }

    /**
     * What the layers bear of the claims, if these have the amounts told. It goes claim by claim, and layer by layer
     * with each: a layer asks only for the claims ahead in the year, and for the layers ahead with this claim.
     */
    private static final class Cession {
        final int[] amounts = new int[MAX_CLAIMS];
        final int[][] bears = new int[MAX_CLAIMS][MAX_LAYERS];
        private final int[][] yearLosses = new int[MAX_LAYERS][YEARS];
        private final int[] claimLosses = new int[MAX_LAYERS];
        private final List<Layer> layers;
        private final List<Claim> claims;

        Cession(List<Layer> layers, List<Claim> claims) {
            this.layers = layers;
            this.claims = claims;
        }

        /** Cedes the claims ahead of the end; the muted layer bears nothing. */
        void cedeAhead(int end, int muted) {
            for (int k = 0; k < MAX_LAYERS; k++) {
                for (int year = 0; year < YEARS; year++) {
                    yearLosses[k][year] = 0;
                }
            }
            for (int i = 0; i < end && i < claims.size(); i++) {
                cede(i, muted);
                int year = claims.get(i).year;
                for (int k = 0; k < layers.size(); k++) {
                    yearLosses[k][year] += claimLosses[k];
                }
            }
        }

        /** Cedes a claim behind those that are ceded already, but adds nothing to the losses of its year. */
        void cede(int i, int muted) {
            Claim claim = claims.get(i);
            for (int k = 0; k < layers.size(); k++) {
                Layer layer = layers.get(k);
                int loss = k == muted ? 0 : layer.lossOf(claim, amounts[i], subject(layer, i, k));
                int losses = yearLosses[k][claim.year];
                claimLosses[k] = loss;
                bears[i][k] = layer.borneOf(claim.year, losses + loss) - layer.borneOf(claim.year, losses);
            }
        }

        private int subject(Layer layer, int i, int end) {
            int subject = amounts[i];
            for (int k = 0; k < end; k++) {
                if (layer.isNetOf(k)) {
                    subject -= given(k, i);
                }
            }
            return Math.max(subject, 0);
        }

        int given(int layer, int i) {
            return layers.get(layer).shareOf(bears[i][layer]);
        }

        int allGiven(int i) {
            int given = 0;
            for (int k = 0; k < layers.size(); k++) {
                given += given(k, i);
            }
            return given;
        }

        int leftOf(int i) {
            return Math.max(amounts[i] - allGiven(i), 0);
        }

        int allLeft() {
            int left = 0;
            for (int i = 0; i < claims.size(); i++) {
                left += leftOf(i);
            }
            return left;
        }

        int borneIn(int layer, int year) {
            return layers.get(layer).borneOf(year, yearLosses[layer][year]);
        }

        int chargedIn(int layer, int year) {
            return layers.get(layer).chargeOf(year, borneIn(layer, year));
        }

        int allCharged() {
            int charged = 0;
            for (int k = 0; k < layers.size(); k++) {
                for (int year = 0; year < YEARS; year++) {
                    charged += chargedIn(k, year);
                }
            }
            return charged;
        }

        int borneClaims(int layer, int year) {
            int borne = 0;
            for (int i = 0; i < claims.size(); i++) {
                if (claims.get(i).year == year && bears[i][layer] > 0) {
                    borne++;
                }
            }
            return borne;
        }
    }

    /** What the claims of a year come to at an age, and what is reckoned of it. */
    private static final class Triangle {
        final int[][] cells = new int[YEARS][YEARS];
        private int now = 0;

        void begin(int now) {
            this.now = now;
            for (int year = 0; year < YEARS; year++) {
                for (int age = 0; age < YEARS; age++) {
                    cells[year][age] = 0;
                }
            }
        }

        int nowOf(int year) {
            return cells[year][now - year];
        }

        int factorAt(int age) {
            long at = 0;
            long next = 0;
            for (int year = 0; year + age + 1 <= now; year++) {
                at += cells[year][age];
                next += cells[year][age + 1];
            }
            return at == 0 ? 1000 : (int) Math.min(next * 1000 / at, (long) MAX_FACTOR);
        }

        int ultimateOf(int year, int tail) {
            return grown(nowOf(year), year, tail);
        }

        int growthOf(int year, int tail) {
            return grown(1000, year, tail);
        }

        private int grown(long start, int year, int tail) {
            long value = start;
            for (int age = now - year; age <= YEARS - 2; age++) {
                value = Math.min(value * factorAt(age) / 1000, (long) MAX_ULTIMATE);
            }
            return (int) Math.min(value * tail / 1000, (long) MAX_ULTIMATE);
        }
    }
}
