/**
 * Terms, the first part: numbers of 32 bits, divisions, positions. Each method tests one sentence; a sum is compared with
 * its due number in a test of a layer, where numbers below 0 can be told, too.
 */
final class NumberEdgeTest {
    private static final String GREATEST = "(32767 * 65536 + 65535)";
    private static final String LEAST = "(-32768 * 65536)";

    public static void main(String[] args) {
        sumsWrapAround();
        differencesWrapAround();
        productsWrapAround();
        turnedNumbersWrapAround();
        nothingWrapsInMinAndMax();
        quotientsAreCutTowards0();
        divisionsBy0Give0();
        theLeastNumberByMinus1();
        positionsCountBytesFrom0();
        numbersAreTheSameInTheSumsOfLayers();
        Check.end();
    }

    /** "sums .. of the language wrap around" */
    private static void sumsWrapAround() {
        tells(GREATEST + " + 0", Integer.MAX_VALUE);
        tells("32767 * 65536 + 65534 + 1", Integer.MAX_VALUE);
        tells(GREATEST + " + 1", Integer.MIN_VALUE);
        tells(GREATEST + " + 2", Integer.MIN_VALUE + 1);
        tells(GREATEST + " + " + GREATEST, -2);
        tells(LEAST + " + 1", Integer.MIN_VALUE + 1);
        tells(LEAST + " + -1", Integer.MAX_VALUE);
        tells(LEAST + " + " + LEAST, 0);
        tells(GREATEST + " + 1 + -1", Integer.MAX_VALUE);
    }

    /** "differences .. of the language wrap around" */
    private static void differencesWrapAround() {
        tells(LEAST + " - 0", Integer.MIN_VALUE);
        tells(LEAST + " - 1", Integer.MAX_VALUE);
        tells(LEAST + " + 1 - 1", Integer.MIN_VALUE);
        tells(GREATEST + " - -1", Integer.MIN_VALUE);
        tells(GREATEST + " - 1", Integer.MAX_VALUE - 1);
        tells("0 - " + GREATEST, -Integer.MAX_VALUE);
        tells("0 - " + GREATEST + " - 1", Integer.MIN_VALUE);
        tells("0 - " + GREATEST + " - 2", Integer.MAX_VALUE);
        tells("0 - " + LEAST, Integer.MIN_VALUE);
        tells("-1 - " + LEAST, Integer.MAX_VALUE);
    }

    /** "products of the language wrap around" */
    private static void productsWrapAround() {
        tells("46340 * 46340", 2147395600);
        tells("46341 * 46341", -2147479015);
        tells("65536 * 32767", 2147418112);
        tells("65536 * 32768", Integer.MIN_VALUE);
        tells("65536 * 65535", -65536);
        tells("65536 * 65536", 0);
        tells("9999999 * 214", 2139999786);
        tells("9999999 * 215", -2144967511);
        tells(LEAST + " * -1", Integer.MIN_VALUE);
        tells(GREATEST + " * -1", -Integer.MAX_VALUE);
        tells(LEAST + " * 2", 0);
        tells(GREATEST + " * 2", -2);
    }

    private static void turnedNumbersWrapAround() {
        tells("-" + GREATEST, -Integer.MAX_VALUE);
        tells("-(" + LEAST + " + 1)", Integer.MAX_VALUE);
        tells("-" + LEAST, Integer.MIN_VALUE);
        tells("--" + LEAST, Integer.MIN_VALUE);
        tells("-0", 0);
    }

    private static void nothingWrapsInMinAndMax() {
        tells("min(" + LEAST + ", " + GREATEST + ")", Integer.MIN_VALUE);
        tells("max(" + LEAST + ", " + GREATEST + ")", Integer.MAX_VALUE);
        tells("min(" + GREATEST + ", " + LEAST + ")", Integer.MIN_VALUE);
        tells("max(" + GREATEST + ", " + LEAST + ")", Integer.MAX_VALUE);
        tells("min(3, 3)", 3);
        tells("max(-3, -3)", -3);
        tells("min(-1, 0)", -1);
        tells("max(-1, 0)", 0);
    }

    /** "/ is cut towards 0" */
    private static void quotientsAreCutTowards0() {
        tells("7 / 2", 3);
        tells("-7 / 2", -3);
        tells("7 / -2", -3);
        tells("-7 / -2", 3);
        tells("1 / 2", 0);
        tells("-1 / 2", 0);
        tells("1 / -2", 0);
        tells("2 / 2", 1);
        tells("-2 / 2", -1);
        tells("-1 / 9999999", 0);
        tells(LEAST + " / " + GREATEST, -1);
        tells(GREATEST + " / " + LEAST, 0);
        tells("7 / 2 * 2", 6);
    }

    /** "a division by 0 gives 0" */
    private static void divisionsBy0Give0() {
        tells("5 / 0", 0);
        tells("-5 / 0", 0);
        tells("0 / 0", 0);
        tells(LEAST + " / 0", 0);
        tells(GREATEST + " / 0", 0);
        tells("5 / (line - line)", 0);
        tells("5 / -0", 0);
        tells("5 / (1 / 2)", 0);
        tells("5 / 0 / 0 + 4", 4);
        tells("5 / 1", 5);
        tells("5 / -1", -5);
        tells("0 / 5", 0);
    }

    /** "-2147483648 / -1 gives -2147483648" */
    private static void theLeastNumberByMinus1() {
        tells(LEAST + " / -1", Integer.MIN_VALUE);
        tells("(" + LEAST + " + 1) / -1", Integer.MAX_VALUE);
        tells(LEAST + " / 1", Integer.MIN_VALUE);
        tells(LEAST + " / -2", 1073741824);
        tells(GREATEST + " / -1", -Integer.MAX_VALUE);
    }

    /** "Positions are counted from 0, in bytes." */
    private static void positionsCountBytesFrom0() {
        Check.reads("x", 1, 0);
        Check.reads(" x", 1, 1);
        Check.reads("\n\nx", 1, 2);
        Check.reads("" + (char) 255, 1, 0);
        Check.reads("" + (char) 255 + (char) 255, 1, 0);
        Check.reads(" " + (char) 128 + "layer", 1, 1);
        Check.reads(Check.times(" ", 1999) + "x", 1, 1999);
    }

    /** The same numbers where a layer asks for its sums: what is below 0 is cut there. */
    private static void numbersAreTheSameInTheSumsOfLayers() {
        told(GREATEST, Integer.MAX_VALUE);
        told(GREATEST + " + 1", 0);
        told(LEAST + " - 1", Integer.MAX_VALUE);
        told(LEAST, 0);
        told("65536 * 65536 + 5", 5);
        told("5 / 0 + 4", 4);
        told("10 - -7 / 2", 13);
        told("10 + -7 / 2", 7);
        told(LEAST + " / -1", 0);
        told(LEAST + " / -1 - 1", Integer.MAX_VALUE);
        told("-1", 0);
        told("0", 0);
        told("1", 1);
    }

    private static void tells(String sum, int due) {
        holds(sum + " = " + spelled(due), true);
        holds(sum + " < " + spelled(due), false);
        holds(sum + " > " + spelled(due), false);
        holds(sum + " >= " + spelled(due), true);
        holds(sum + " <= " + spelled(due), true);
    }

    private static void holds(String test, boolean due) {
        LossHouse house = Check.houseWith("layer a 1 xs 0 when " + test + ";");
        house.open(0, 3, 7);
        Check.same(test, house.gets(0, 0, false), due ? 1 : 0);
    }

    /** Numbers of the language have at most 7 digits: this one is told by its two halves, without wrapping around. */
    private static String spelled(int number) {
        int high = Math.floorDiv(number, 65536);
        return (high < 0 ? "-" : "") + Math.abs(high) + " * 65536 + " + Math.floorMod(number, 65536);
    }

    private static void told(String sum, int due) {
        LossHouse house = Check.houseWith("layer a " + sum + " xs " + sum + " yearly " + sum + " after " + sum + ";");
        for (int what = 0; what <= 3; what++) {
            Check.same(sum + " as " + what, house.terms(0, 0, what), due);
        }
    }
}
