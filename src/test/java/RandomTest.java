import java.lang.reflect.InvocationTargetException;
import java.lang.reflect.Method;
import java.util.ArrayList;
import java.util.Arrays;
import java.util.List;
import java.util.Random;

/** Runs of up to 512 calls, each answer compared with that of PlainHouse. The random numbers are always the same ones. */
final class RandomTest {
    private static final int RUNS = 150;
    private static final String[] NAMES = {"a", "b", "c", "low", "top", "stop", "cat9", "abcdefghij", "i", "j"};
    private static final String[] JUNK = {"layer", "xs", "share", "yearly", "after", "reinstate", "at", "net", "of", "when",
        "and", "or", "not", "min", "max", "line", "year", "amount", "(", ")", "[", "]", ";", ",", "+", "-", "*", "/", "<",
        ">", "=", "<=", ">=", "a", "low", "0", "101", "301", "9999999", "12345678", "abcdefghijk", "!", "A", "" + (char) 200};

    private final Random random;
    private final LossHouse house = new LossHouse();
    private final PlainHouse plain = new PlainHouse();
    private final StringBuilder calls = new StringBuilder();
    private int made = 0;
    private int wrong = 0;

    private RandomTest(long seed) {
        random = new Random(seed);
    }

    public static void main(String[] args) throws Exception {
        int runs = args.length > 0 ? Integer.parseInt(args[0]) : RUNS;
        long first = args.length > 1 ? Long.parseLong(args[1]) : 1;
        int made = 0;
        for (long seed = first; seed < first + runs; seed++) {
            RandomTest test = new RandomTest(seed);
            test.run();
            made += test.made;
            if (test.wrong != 0) {
                System.out.println("seed " + seed + ":\n" + test.calls);
                System.exit(1);
            }
        }
        System.out.println(made + " calls compared in " + runs + " runs");
    }

    private void run() throws Exception {
        int style = random.nextInt(4);
        write(text(style));
        call("teach");
        int next = style == 0 ? 400 : 40;
        while (made < 500 && wrong == 0) {
            if (random.nextInt(next) == 0) {
                writeSome();
            } else {
                one();
            }
        }
        call("errorAt");
        call("digest");
    }

    private void writeSome() throws Exception {
        String text = text(random.nextInt(4));
        if (text.length() < 20 * (500 - made) - 40) {
            write(random.nextInt(2) == 0 ? text : spoiled(text));
            call("teach");
            call("errorAt");
            call("count", 0);
        }
    }

    private void one() throws Exception {
        switch (random.nextInt(32)) {
            case 0: call("count", n(-1, 9)); break;
            case 1: call("layer", layer(), n(-1, 8)); break;
            case 2: call("terms", layer(), n(-1, 10), n(-1, 4)); break;
            case 3:
            case 4:
            case 5:
            case 6: call("open", n(-1, plain.count(3) + 1), n(-1, 6), money()); break;
            case 7:
            case 8:
            case 9: call("pay", claim(), money() / (1 + random.nextInt(4))); break;
            case 10:
            case 11: call("setReserve", claim(), money()); break;
            case 12: call("close", claim(), random.nextBoolean()); break;
            case 13: call("claim", claim(), n(-1, 8)); break;
            case 14: call("claim", claim(), n(6, 7)); break;
            case 15: call("at", claim(), n(-1, plain.count(3) + 1), random.nextBoolean()); break;
            case 16:
            case 17: call("gets", layer(), claim(), random.nextBoolean()); break;
            case 18:
            case 19: call("used", layer(), n(-1, random.nextInt(6) == 0 ? 10 : plain.count(3) + 1), n(-1, 4)); break;
            case 20: if (random.nextInt(3) > 0) { call("nextYear"); } break;
            case 21: call("setPremium", n(-1, 10), random.nextInt(10000100) - 50, n(-1, 201)); break;
            case 22: call("setTail", n(990, 3010)); break;
            case 23: call("triangle", n(-1, 4), n(-1, plain.count(3) + 1), n(-1, plain.count(3) + 1)); break;
            case 24: call("factor", n(-1, 4), n(-1, 9)); break;
            case 25: call("ultimate", n(-1, 4), n(-1, plain.count(3) + 1), random.nextBoolean()); break;
            case 26: call("reserve", n(-1, 3), n(-1, plain.count(3) + 1)); break;
            case 27: call("worst", n(-1, 3)); break;
            case 28: call("would", claim(), money(), n(-1, 3)); break;
            case 29: call(random.nextBoolean() ? "keenest" : "kept"); call("without", layer()); break;
            case 30: call("reaches", claim(), layer()); break;
            default: if (random.nextInt(8) == 0) { call("digest"); } break;
        }
    }

    private int n(int least, int most) {
        // wrong arguments are rarer than good ones
        int drawn = least + random.nextInt(most - least + 1);
        for (int n = 0; n < 3 && (drawn == least || drawn == most); n++) {
            drawn = least + random.nextInt(most - least + 1);
        }
        return drawn;
    }

    private int layer() {
        return n(-1, Math.max(plain.count(0), 1));
    }

    private int claim() {
        return n(-1, Math.max(plain.count(1), 1));
    }

    private int money() {
        switch (random.nextInt(12)) {
            case 0: return 0;
            case 1: return 1000000;
            case 2: return random.nextInt(1000100) - 50;
            case 3: return random.nextInt(20) - 5;
            case 4: return 5000 * random.nextInt(60);
            default: return random.nextInt(random.nextInt(300000) + 1);
        }
    }

    // ---- calls

    private void write(String text) throws Exception {
        byte[] bytes = Arrays.copyOf(text.getBytes("ISO-8859-1"), (text.length() + 19) / 20 * 20);
        calls.append("// ").append(text).append('\n');
        for (int i = 0; i < bytes.length && wrong == 0; i += 20) {
            Object[] args = new Object[5];
            for (int k = 0; k < 5; k++) {
                int at = i + 4 * k;
                args[k] = (bytes[at] & 255) << 24 | (bytes[at + 1] & 255) << 16 | (bytes[at + 2] & 255) << 8 | bytes[at + 3] & 255;
            }
            call("feed", args);
        }
        call("trim", text.length() > 2000 ? 2000 : text.length());
    }

    private void call(String name, Object... args) throws Exception {
        made++;
        Object due = answer(plain, name, args);
        Object got = answer(house, name, args);
        calls.append(name).append(Arrays.toString(args)).append(" -> ").append(got);
        if (!got.equals(due)) {
            wrong++;
            calls.append(", due is ").append(due);
        }
        calls.append('\n');
    }

    private static Object answer(Object object, String name, Object[] args) throws Exception {
        for (Method method : object.getClass().getDeclaredMethods()) {
            if (method.getName().equals(name) && method.getParameterCount() == args.length
                    && java.lang.reflect.Modifier.isPublic(method.getModifiers())) {
                method.setAccessible(true);
                try {
                    return method.invoke(object, args);
                } catch (InvocationTargetException e) {
                    return e.getCause().getClass().getSimpleName();
                }
            }
        }
        throw new IllegalStateException("no method " + name);
    }

    // ---- texts

    private String spoiled(String text) {
        List<String> parts = new ArrayList<>(List.of(text.split(" ")));
        for (int n = random.nextInt(2); n >= 0 && !parts.isEmpty(); n--) {
            int at = random.nextInt(parts.size());
            switch (random.nextInt(5)) {
                case 0: parts.remove(at); break;
                case 1: parts.add(at, JUNK[random.nextInt(JUNK.length)]); break;
                case 2: parts.set(at, JUNK[random.nextInt(JUNK.length)]); break;
                case 3: parts.set(at, parts.get(random.nextInt(parts.size()))); break;
                default: parts = new ArrayList<>(parts.subList(0, at)); break;
            }
        }
        String joined = String.join(random.nextInt(3) == 0 ? "\n" : " ", parts);
        return random.nextInt(4) > 0 ? joined : joined.substring(0, random.nextInt(joined.length() + 1));
    }

    /** Style 0: few and plain layers; 1: many; 2: deep sums; 3: long ones, and now and then an error 2 to 5. */
    private String text(int style) {
        StringBuilder text = new StringBuilder();
        int count = style == 1 ? 4 + random.nextInt(6) : 1 + random.nextInt(4);
        for (int k = 0; k < count; k++) {
            tellLayer(text, style, k);
        }
        String blanked = text.toString();
        if (random.nextInt(3) == 0) {
            blanked = blanked.replaceAll(" ([\\]\\[()+\\-*/<>=;,]+) ", "$1");
        }
        return blanked.length() > 1980 ? "" : blanked;
    }

    private void tellLayer(StringBuilder text, int style, int k) {
        boolean isLoose = style == 3 && random.nextInt(4) == 0;
        String name = isLoose ? NAMES[random.nextInt(NAMES.length)] : NAMES[k % 10];
        text.append("layer ").append(name).append(' ').append(amount(style)).append(" xs ").append(amount(style));
        if (random.nextInt(2) == 0) {
            text.append(" share ").append(isLoose ? random.nextInt(103) : 1 + random.nextInt(100));
        }
        if (random.nextInt(3) == 0) {
            text.append(" yearly ").append(amount(style));
        }
        if (random.nextInt(3) == 0) {
            text.append(" after ").append(amount(style));
        }
        if (random.nextInt(2) == 0) {
            int told = random.nextInt(isLoose ? 6 : 5);
            text.append(" reinstate ").append(told);
            for (int n = random.nextInt(told + (isLoose ? 2 : 1)); n > 0; n--) {
                text.append(" at ").append(random.nextInt(isLoose ? 310 : 301));
            }
        }
        if (random.nextInt(2) == 0 && (isLoose || k > 0)) {
            text.append(" net of ").append(NAMES[random.nextInt(isLoose ? 8 : Math.min(k, 8))]);
            while (random.nextInt(2) == 0) {
                text.append(" , ").append(NAMES[random.nextInt(isLoose ? 8 : Math.min(k, 8))]);
            }
        }
        if (random.nextInt(3) == 0) {
            text.append(" when ").append(test(style, 0));
        }
        text.append(" ; ");
    }

    private String amount(int style) {
        if (random.nextInt(3) > 0 && style != 2 || style == 0) {
            return "" + (random.nextInt(5) == 0 ? random.nextInt(3) : random.nextInt(300000));
        }
        StringBuilder sum = new StringBuilder(sum(0, style == 2 ? 8 : 2));
        if (style == 3 && random.nextInt(6) == 0) {
            for (int n = random.nextInt(200); n > 0; n--) {
                sum.append(" + ").append(random.nextInt(300));
            }
        }
        return sum.toString();
    }

    private String sum(int depth, int most) {
        StringBuilder sum = new StringBuilder(value(depth, most));
        while (random.nextInt(3) == 0) {
            sum.append(' ').append("+-*/".charAt(random.nextInt(4))).append(' ').append(value(depth, most));
        }
        return sum.toString();
    }

    private String value(int depth, int most) {
        // now and then one deeper than may be
        boolean isDeep = depth < most || random.nextInt(60) == 0;
        switch (random.nextInt(isDeep ? 11 : 7)) {
            case 0: return "line";
            case 1: return "year";
            case 2: return "amount";
            case 3: return "" + random.nextInt(10);
            case 4: return "" + random.nextInt(10000000);
            case 5:
            case 6: return "" + random.nextInt(200000);
            case 7: return "- " + value(depth + 1, most);
            case 8: return "( " + sum(depth + 1, most) + " )";
            default: {
                String name = random.nextBoolean() ? "min" : "max";
                return name + " ( " + sum(depth + 1, most) + " , " + sum(depth + 1, most) + " )";
            }
        }
    }

    private String test(int style, int depth) {
        int most = style == 2 ? 8 : 3;
        StringBuilder test = new StringBuilder(single(depth, most));
        while (random.nextInt(3) == 0) {
            test.append(random.nextBoolean() ? " and " : " or ").append(single(depth, most));
        }
        return test.toString();
    }

    private String single(int depth, int most) {
        boolean isDeep = depth < most || random.nextInt(60) == 0;
        switch (random.nextInt(isDeep ? 6 : 4)) {
            case 0: return "line " + compared() + " " + random.nextInt(6);
            case 1: return "amount " + compared() + " " + random.nextInt(300000);
            case 2:
            case 3: return sum(depth, most) + " " + compared() + " " + sum(depth, most);
            case 4: return "not " + single(depth + 1, most);
            default: return "[ " + test(most == 8 ? 2 : 1, depth + 1) + " ]";
        }
    }

    private String compared() {
        return JUNK[28 + random.nextInt(5)];
    }
}
