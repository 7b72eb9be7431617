/** Terms, 3: layers, sentence by sentence, and promises 7, 8, 15 and 16. */
final class LayerEdgeTest {
    private static final int GREATEST = Integer.MAX_VALUE;

    public static void main(String[] args) {
        thereAreAtMost8();
        theAmountIsThatOfTheBasis();
        lineAndYearAreThoseOfTheClaim();
        lineAndAmountAre0ForAYearByItself();
        aLimitBelow0CountsAs0();
        aRetentionBelow0CountsAs0();
        aYearlyBelow0CountsAs0();
        anAfterBelow0CountsAs0();
        numbersBelow0StayInTests();
        aSubjectIsAtLeast0();
        aSubjectIsLessWhatIsGotNotWhatIsBorne();
        aLossIsBeyondTheRetentionAndAtMostTheLimit();
        aLossIs0IfTheTestDoesNotHold();
        comparisonsHoldOnOneSide();
        comparisonsAreJoinedInPairs();
        whatIsBeyondTheAfterIsBorne();
        whatIsBorneIsAtMostTheBound();
        aBoundOf0IsNone();
        theBoundIsTheLesserOne();
        aBoundIsToldByYearlyOrByReinstateAlone();
        withoutBothThereIsNoBound();
        boundsDoNotWrapAround();
        claimsOfAYearTakeInTheirOrder();
        anAnswerIsTheSameWhenAskedAgain();
        aShareIsCut();
        whatIsLeftIsAtLeast0();
        Check.end();
    }

    private static void gets(LossHouse house, int... due) {
        for (int k = 0; k < house.count(0); k++) {
            int claims = due.length / house.count(0);
            for (int i = 0; i < claims; i++) {
                Check.same("gets(" + k + ", " + i + ")", house.gets(k, i, false), due[k * claims + i]);
            }
        }
    }

    /** A house with this text, and claims of the year 0 and the line 0 with these reserves. */
    private static LossHouse with(String text, int... reserves) {
        LossHouse house = Check.houseWith(text);
        for (int i = 0; i < reserves.length; i++) {
            Check.same("open", house.open(0, 0, reserves[i]), i);
        }
        return house;
    }

    /** A house in the year 4 with claims of 100 in the years 2, 3 and 4, of the lines 2, 3 and 4. */
    private static LossHouse withYears(String text) {
        LossHouse house = Check.houseWith(text);
        for (int i = 0; i < 4; i++) {
            house.nextYear();
        }
        for (int year = 2; year <= 4; year++) {
            house.open(year, year, 100);
        }
        return house;
    }

    /** A house with claims of 100 in the year 0, of the lines 2, 3 and 4. */
    private static LossHouse inOneYear(String text) {
        LossHouse house = Check.houseWith(text);
        for (int line = 2; line <= 4; line++) {
            house.open(0, line, 100);
        }
        return house;
    }

    /** "The language tells at most 8, numbered from 0 in their order." */
    private static void thereAreAtMost8() {
        StringBuilder text = new StringBuilder();
        for (int k = 0; k < 8; k++) {
            LossHouse house = with(text.toString(), 1000);
            int told = k;
            Check.same("count(0)", house.count(0), told);
            Check.noIndex("the layer behind the last one", house, () -> house.layer(told, 0));
            text.append("layer l").append(7 - k).append(' ').append(k + 1).append(" xs 10 share ").append(100 - k);
            text.append(k == 7 ? " net of l7, l6, l5, l4, l3, l2, l1;" : ";");
        }
        LossHouse house = with(text.toString(), 1000, 1000);
        Check.same("count(0)", house.count(0), 8);
        for (int k = 0; k < 8; k++) {
            Check.same("the limit of " + k, house.terms(k, 9, 0), k + 1);
            Check.same("the share of " + k, house.layer(k, 0), 100 - k);
            Check.same("what is borne by " + k, house.used(k, 0, 0), 2 * k + 2);
        }
        Check.same("net of seven", house.layer(7, 3), 127);
        Check.same("net of none", house.layer(6, 3), 0);
        Check.noIndex("the layer 8", house, () -> house.layer(8, 0));
    }

    /** "The amount of a claim is what it has incurred, or what is paid of it, as is asked (the basis)." */
    private static void theAmountIsThatOfTheBasis() {
        LossHouse house = with("layer a amount - 10 xs 5 when amount >= 50; layer b 9 xs 0 when amount < 50;", 70, 70);
        house.pay(0, 49);
        house.pay(1, 50);
        gets(house, 60, 60, 0, 0);
        Check.same("of what is paid, 49", house.gets(0, 0, true), 0);
        Check.same("of what is paid, 50", house.gets(0, 1, true), 40);
        Check.same("of what is paid, 49", house.gets(1, 0, true), 9);
        Check.same("of what is paid, 50", house.gets(1, 1, true), 0);
        Check.same("left of what is paid", house.claim(0, 6), 40);
        Check.same("left of what is incurred", house.claim(0, 7), 10);
        Check.same("used, by what is incurred", house.used(0, 0, 0), 120);
        // the bounds are taken by each basis for itself
        Check.taught(house, "layer a 60 xs 0 yearly 80;");
        gets(house, 60, 20);
        Check.same("of what is paid, within the bound", house.gets(0, 1, true), 31);
    }

    /** "In sums and tests line and year are those of the claim" */
    private static void lineAndYearAreThoseOfTheClaim() {
        LossHouse house = withYears("layer a 10 * line + year xs 0; layer b 1000 xs 20 * year + line;"
                + "layer c 1 xs 0 when line = 3; layer d 1 xs 0 when year >= 3 and line < 4;");
        gets(house, 22, 33, 44, 58, 37, 16, 0, 1, 0, 0, 1, 0);
    }

    /** "in the sums behind yearly and after, and wherever they are asked of a year by itself, line and amount are 0" */
    private static void lineAndAmountAre0ForAYearByItself() {
        String text = "layer a 20 + 100 * line + amount + year xs 30 + line - amount + year"
                + " yearly 70 - line - amount + year after 5 + line + amount + year reinstate 3 at 100;";
        LossHouse house = Check.houseWith(text);
        house.nextYear();
        int[] due = {20, 30, 5, 70};
        for (int year = 0; year <= 9; year++) {
            for (int what = 0; what <= 3; what++) {
                Check.same("terms(0, " + year + ", " + what + ")", house.terms(0, year, what), due[what] + year);
            }
        }
        house.open(1, 5, 50);
        // the claim's limit is 571, its retention below 0: a loss of 50, 6 of it not borne, at most 71
        gets(house, 44);
        house.open(1, 5, 50);
        gets(house, 44, 27);
        // 71 are borne: the first part is that up to the limit of the year, 21
        Check.same("charged", house.used(0, 1, 2), 21);
        Check.taught(house, "layer a 20 + line xs 0 reinstate 1;");
        gets(house, 25, 15);
        Check.same("the bound by the limit of the year", house.terms(0, 1, 3), 40);
    }

    /** "What the sums of the limit .. tell below 0 counts as 0" */
    private static void aLimitBelow0CountsAs0() {
        gets(withYears("layer a line - 3 xs 0;"), 0, 0, 1);
        gets(withYears("layer a line - 3 xs 99;"), 0, 0, 1);
        // in one year, too: a loss below 0 would take from what the next claim gets
        gets(inOneYear("layer a line - 3 xs 0;"), 0, 0, 1);
        gets(inOneYear("layer a 3 - line xs 0;"), 1, 0, 0);
        LossHouse house = withYears("layer a year - 3 xs 0 reinstate 1 at 100;");
        gets(house, 0, 0, 1);
        int[] due = {0, 0, 0, 0, 1, 2, 3, 4, 5, 6};
        for (int year = 0; year <= 9; year++) {
            Check.same("the limit of " + year, house.terms(0, year, 0), due[year]);
            Check.same("the bound of " + year, house.terms(0, year, 3), 2 * due[year]);
        }
        Check.same("charged with a limit below 0", house.used(0, 2, 2), 0);
        Check.same("charged with the limit 0", house.used(0, 3, 2), 0);
        Check.same("charged with the limit 1", house.used(0, 4, 2), 1);
        // the limit of the year is below 0, that of the claim is not
        LossHouse other = withYears("layer a line * 10 - 5 xs 0 yearly 50 reinstate 4 at 300 at 300;");
        gets(other, 0, 0, 0);
        Check.same("charged", other.used(0, 4, 2), 0);
    }

    /** "of the retention" */
    private static void aRetentionBelow0CountsAs0() {
        LossHouse house = withYears("layer a 1000 xs year - 3;");
        gets(house, 100, 100, 99);
        for (int year = 0; year <= 9; year++) {
            Check.same("the retention of " + year, house.terms(0, year, 1), Math.max(year - 3, 0));
        }
        gets(withYears("layer a 1000 xs line - 3;"), 100, 100, 99);
        gets(inOneYear("layer a 1000 xs line - 3;"), 100, 100, 99);
        gets(withYears("layer a 1000 xs 32768 * 65536;"), 100, 100, 100);
        gets(withYears("layer a 1000 xs 32767 * 65536 + 65535;"), 0, 0, 0);
    }

    /** "and behind yearly": such a bound is 0, and is told. */
    private static void aYearlyBelow0CountsAs0() {
        LossHouse house = withYears("layer a 1000 xs 0 yearly year - 3;");
        gets(house, 0, 0, 1);
        for (int year = 0; year <= 9; year++) {
            Check.same("the bound of " + year, house.terms(0, year, 3), Math.max(year - 3, 0));
        }
        Check.same("room below the bound 0", house.used(0, 2, 1), 0);
        Check.same("layer(0, 2)", house.layer(0, 2), 1);
        gets(withYears("layer a 1000 xs 0 yearly -1;"), 0, 0, 0);
        gets(withYears("layer a 1000 xs 0 yearly -1 reinstate 4;"), 0, 0, 0);
    }

    /** "and after" */
    private static void anAfterBelow0CountsAs0() {
        LossHouse house = withYears("layer a 1000 xs 0 after year - 3;");
        gets(house, 100, 100, 99);
        for (int year = 0; year <= 9; year++) {
            Check.same("the after of " + year, house.terms(0, year, 2), Math.max(year - 3, 0));
        }
        gets(withYears("layer a 1000 xs 200 after -50;"), 0, 0, 0);
        gets(withYears("layer a 1000 xs 0 after 32767 * 65536 + 65535;"), 0, 0, 0);
    }

    /** "(not so in tests)" */
    private static void numbersBelow0StayInTests() {
        gets(withYears("layer a 1 xs 0 when line - 3 < 0;"), 1, 0, 0);
        gets(withYears("layer a 1 xs 0 when line - 3 = -1;"), 1, 0, 0);
        gets(withYears("layer a 1 xs 0 when -1 > line - 4;"), 1, 0, 0);
        gets(withYears("layer a 1 xs 0 when amount - 101 >= 0;"), 0, 0, 0);
        gets(withYears("layer a 1 xs 0 when amount - 100 >= 0;"), 1, 1, 1);
        gets(withYears("layer a 1 xs 0 when min(line - 3, 0) = -1;"), 1, 0, 0);
    }

    /** "its subject is its amount, less what it gets from the layers of which this one is net, but at least 0" */
    private static void aSubjectIsAtLeast0() {
        LossHouse house = Check.houseWith("layer a 60 xs 0; layer b 39 + line xs 0; layer c 1000 xs 0 net of a, b;"
                + "layer d 1000 xs -50 net of a, b; layer e 7 xs 0;");
        for (int line = 0; line <= 2; line++) {
            house.open(0, line, 100);
        }
        gets(house, 60, 60, 60, 39, 40, 41, 1, 0, 0, 1, 0, 0, 7, 7, 7);
    }

    private static void aSubjectIsLessWhatIsGotNotWhatIsBorne() {
        gets(with("layer a 3 xs 0 share 50; layer b 1000 xs 0 net of a;", 10, 1), 1, 0, 9, 1);
        // the layer between is left out where it is not told
        gets(with("layer a 10 xs 0; layer b 20 xs 0; layer c 1000 xs 0 net of a;", 100), 10, 20, 90);
        gets(with("layer a 10 xs 0; layer b 20 xs 0 net of a; layer c 1000 xs 0 net of b;", 100), 10, 20, 80);
        // told twice, it is taken off once
        gets(with("layer a 10 xs 0; layer b 1000 xs 0 net of a, a;", 100), 10, 90);
        // tests and sums ask for the amount, not for the subject
        gets(with("layer a 10 xs 0; layer b amount xs amount / 2 net of a when amount = 100;", 100), 10, 40);
    }

    /** "what of the subject is beyond the second sum (the retention), but at most the first one (the limit)" */
    private static void aLossIsBeyondTheRetentionAndAtMostTheLimit() {
        gets(with("layer a 40 xs 100;", 0, 99, 100, 101, 139, 140, 141, 1000000), 0, 0, 0, 1, 39, 40, 40, 40);
        gets(with("layer a 1 xs 0;", 0, 1, 2), 0, 1, 1);
        gets(with("layer a 0 xs 0;", 0, 1, 2), 0, 0, 0);
        gets(with("layer a 32767 * 65536 + 65535 xs 0;", 0, 1, 1000000), 0, 1, 1000000);
        gets(with("layer a 32767 * 65536 + 65535 xs 999999;", 999999, 1000000), 0, 1);
    }

    /** "If the layer has no test, or it holds, ..; otherwise 0." */
    private static void aLossIs0IfTheTestDoesNotHold() {
        gets(with("layer a 40 xs 10 when amount > 50; layer b 40 xs 10 when not amount > 50; layer c 40 xs 10;", 50, 51),
                0, 40, 40, 0, 40, 40);
        gets(with("layer a 40 xs 10 when amount >= 51; layer b 40 xs 10 when amount <= 50;", 50, 51), 0, 40, 40, 0);
        gets(with("layer a 40 xs 10 when amount = 50; layer b 40 xs 10 when amount < 51;", 50, 51), 40, 0, 40, 0);
        gets(with("layer a 40 xs 10 when 1 < 2 or 1 < 2 and 2 < 1; layer b 40 xs 10 when [1 < 2 or 1 < 2] and 2 < 1;", 50), 40, 0);
        // it does not hold with the amount at that age
        LossHouse house = with("layer a 40 xs 0 when amount > 50;", 50);
        house.nextYear();
        house.setReserve(0, 60);
        Check.same("left of the age 0", house.triangle(3, 0, 0), 50);
        Check.same("left of the age 1", house.triangle(3, 0, 1), 20);
    }

    /** Each comparison with its left side less, equal and greater, by itself and turned. */
    private static void comparisonsHoldOnOneSide() {
        String[] signs = {"<", ">", "=", "<=", ">="};
        String[] due = {"100", "001", "010", "110", "011"};
        for (int i = 0; i < signs.length; i++) {
            for (int left = 4; left <= 6; left++) {
                boolean isDue = due[i].charAt(left - 4) == '1';
                String test = left + signs[i] + 5;
                holds(test, isDue);
                holds("not " + test, !isDue);
                holds("not [" + test + "]", !isDue);
                holds("not not " + test, isDue);
            }
        }
    }

    /** Each comparison beside each other one: and is read ahead of or, a not turns what stands next. */
    private static void comparisonsAreJoinedInPairs() {
        String[] good = {"4 < 5", "5 > 4", "5 = 5", "5 <= 5", "4 <= 5", "5 >= 5", "5 >= 4", "not 5 = 4"};
        String[] bad = {"5 < 5", "5 > 5", "5 = 4", "5 <= 4", "4 >= 5", "not 5 = 5", "not 5 <= 5", "not not 5 < 4"};
        for (String left : good) {
            for (String right : good) {
                holds(left + " and " + right, true);
                holds(left + " or " + right, true);
                holds("not [" + left + " and " + right + "]", false);
                holds("not [" + left + " or " + right + "]", false);
            }
            for (String right : bad) {
                holds(left + " and " + right, false);
                holds(right + " and " + left, false);
                holds(left + " or " + right, true);
                holds(right + " or " + left, true);
                holds(left + " or " + right + " and " + right, true);
                holds("[" + left + " or " + right + "] and " + right, false);
            }
        }
        for (String left : bad) {
            for (String right : bad) {
                holds(left + " and " + right, false);
                holds(left + " or " + right, false);
            }
        }
    }

    private static void holds(String test, boolean due) {
        Check.same("gets when " + test, with("layer a 1 xs 0 when " + test + ";", 1).gets(0, 0, false), due ? 1 : 0);
    }

    /** "of the losses, added so far, what is beyond the sum behind after (0 without one)" */
    private static void whatIsBeyondTheAfterIsBorne() {
        gets(with("layer a 100 xs 0 after 50;", 49), 0);
        gets(with("layer a 100 xs 0 after 50;", 50), 0);
        gets(with("layer a 100 xs 0 after 50;", 51), 1);
        gets(with("layer a 100 xs 0 after 50;", 20, 30, 1, 100), 0, 0, 1, 100);
        gets(with("layer a 100 xs 0 after 50;", 20, 31), 0, 1);
        gets(with("layer a 100 xs 0 after 0;", 1), 1);
        gets(with("layer a 100 xs 0;", 1), 1);
        LossHouse house = with("layer a 100 xs 0 after 50;", 20, 30, 1, 100);
        Check.same("claims of which something is borne", house.used(0, 0, 3), 2);
        Check.same("what is borne", house.used(0, 0, 0), 101);
    }

    /** "but at most the bound, is borne" */
    private static void whatIsBorneIsAtMostTheBound() {
        int[] reserves = {49, 50, 51};
        int[] borne = {49, 50, 50};
        for (int i = 0; i < 3; i++) {
            LossHouse house = with("layer a 100 xs 0 yearly 50;", reserves[i], 7);
            gets(house, borne[i], i == 0 ? 1 : 0);
            Check.same("used", house.used(0, 0, 0), 50);
            Check.same("room", house.used(0, 0, 1), 0);
            Check.same("claims of which something is borne", house.used(0, 0, 3), i == 0 ? 2 : 1);
            LossHouse alone = with("layer a 100 xs 0 yearly 50;", reserves[i]);
            Check.same("room behind one claim", alone.used(0, 0, 1), 50 - borne[i]);
        }
        LossHouse behind = with("layer a 100 xs 0 yearly 50 after 30;", 79, 1, 1);
        gets(behind, 49, 1, 0);
        Check.same("another year", behind.used(0, 1, 1), 50);
        Check.same("another year", behind.used(0, 9, 0), 0);
    }

    /** A bound 0 is told, and nothing is borne. */
    private static void aBoundOf0IsNone() {
        String[] texts = {"layer a 100 xs 0 yearly 0;", "layer a 0 xs 0 reinstate 4;", "layer a 100 xs 0 yearly 0 reinstate 4;"};
        for (String text : texts) {
            LossHouse house = with(text, 60);
            gets(house, 0);
            Check.same("the bound of " + text, house.terms(0, 0, 3), 0);
            Check.same("room of " + text, house.used(0, 0, 1), 0);
            Check.same("used of " + text, house.used(0, 0, 0), 0);
            Check.same("claims of " + text, house.used(0, 0, 3), 0);
        }
    }

    /** "the lesser one of the sum behind yearly, and of the limit .. * (1 and the number behind reinstate)" */
    private static void theBoundIsTheLesserOne() {
        for (int yearly = 29; yearly <= 31; yearly++) {
            LossHouse house = with("layer a 10 xs 0 yearly " + yearly + " reinstate 2;", 9, 9, 9, 9);
            Check.same("the bound", house.terms(0, 0, 3), Math.min(yearly, 30));
            gets(house, 9, 9, 9, Math.min(yearly, 30) - 27);
            Check.same("room", house.used(0, 0, 1), 0);
        }
    }

    /** "each of them only if it is told" */
    private static void aBoundIsToldByYearlyOrByReinstateAlone() {
        for (int reinstate = 0; reinstate <= 4; reinstate++) {
            LossHouse house = with("layer a 10 xs 0 reinstate " + reinstate + ";", 10, 10, 10, 10, 10, 10);
            Check.same("the bound", house.terms(0, 0, 3), 10 + 10 * reinstate);
            Check.same("used", house.used(0, 0, 0), 10 + 10 * reinstate);
            Check.same("layer(0, 1)", house.layer(0, 1), reinstate);
            Check.same("layer(0, 2)", house.layer(0, 2), 0);
        }
        LossHouse house = with("layer a 10 xs 0 yearly 45;", 10, 10, 10, 10, 10, 10);
        Check.same("the bound", house.terms(0, 0, 3), 45);
        Check.same("used", house.used(0, 0, 0), 45);
        Check.same("layer(0, 1)", house.layer(0, 1), -1);
        Check.same("layer(0, 2)", house.layer(0, 2), 1);
    }

    /** "without both there is none" */
    private static void withoutBothThereIsNoBound() {
        LossHouse house = Check.houseWith("layer a 2000000 xs 0;");
        for (int i = 0; i < 40; i++) {
            house.open(0, 0, 1000000);
            house.pay(i, 1000000);
            house.setReserve(i, 1000000);
        }
        Check.same("the bound", house.terms(0, 0, 3), -1);
        Check.same("room", house.used(0, 0, 1), -1);
        Check.same("all is borne", house.used(0, 0, 0), 80000000);
        Check.same("claims", house.used(0, 0, 3), 40);
        Check.same("the last one gets all", house.gets(0, 39, false), 2000000);
        Check.same("nothing is left", house.count(7), 0);
        Check.same("room in another year", house.used(0, 1, 1), -1);
    }

    /** "(These are reckoned without wrapping around.)"; "at most 2147483647" */
    private static void boundsDoNotWrapAround() {
        // 1073741824 * 2 is just too great, 1073741824 * 4 would wrap to 0
        great("65536 * 16384", 1, GREATEST, 1L << 31);
        great("65536 * 16384", 3, GREATEST, 1L << 32);
        great("65536 * 16384", 4, GREATEST, 5L << 30);
        great("65536 * 16384 - 1", 1, GREATEST - 1, (1L << 31) - 2);
        great("32767 * 65536 + 65535", 0, GREATEST, GREATEST);
        great("32767 * 65536 + 65535", 1, GREATEST, 2L * GREATEST);
        great("32767 * 65536 + 65535", 4, GREATEST, 5L * GREATEST);
        great("32767 * 65536 + 65534", 0, GREATEST - 1, GREATEST - 1);
        LossHouse house = with("layer a 65536 * 16384 xs 0 yearly 70 reinstate 3;", 60, 60);
        Check.same("the lesser one of a great bound", house.terms(0, 0, 3), 70);
        gets(house, 60, 10);
        LossHouse after = with("layer a 100 xs 0 yearly 32767 * 65536 + 65535 after 32767 * 65536 + 65535;", 60, 60);
        Check.same("a great yearly", after.terms(0, 0, 3), GREATEST);
        Check.same("a great after", after.terms(0, 0, 2), GREATEST);
        gets(after, 0, 0);
        Check.same("room of a great yearly", after.used(0, 0, 1), GREATEST);
    }

    private static void great(String limit, int reinstate, int told, long bound) {
        LossHouse house = with("layer a " + limit + " xs 0 reinstate " + reinstate + (reinstate > 0 ? " at 300;" : ";"));
        Check.same("the bound", house.terms(0, 0, 3), told);
        Check.same("room with nothing", house.used(0, 0, 1), told);
        for (int i = 0; i < 3; i++) {
            house.open(0, 0, i == 0 ? 1 : 1000000);
            long borne = i == 0 ? 1 : 1000000L * i + 1;
            Check.same("used", house.used(0, 0, 0), borne);
            Check.same("room with " + borne, house.used(0, 0, 1), Math.min(bound - borne, GREATEST));
        }
        Check.same("charged", house.used(0, 0, 2), reinstate == 0 ? 0 : 6000003);
    }

    /** "the claims of the year in the order of their numbers: .. what is borne with a claim, less what was borne ahead of it" */
    private static void claimsOfAYearTakeInTheirOrder() {
        LossHouse house = Check.houseWith("layer a 100 xs 10 yearly 150 after 20;");
        house.nextYear();
        int[] years = {1, 0, 1, 0, 1, 0};
        int[] reserves = {25, 1000, 60, 1000, 1000, 20};
        for (int i = 0; i < 6; i++) {
            house.open(years[i], 0, reserves[i]);
        }
        // the year 0: losses 100, 100, 10; the year 1: 15, 50, 100
        gets(house, 0, 80, 45, 70, 100, 0);
        house.close(1, true);
        gets(house, 0, 0, 45, 80, 100, 10);
        Check.same("used in the year 0", house.used(0, 0, 0), 90);
        Check.same("used in the year 1", house.used(0, 1, 0), 145);
    }

    /** Each question begins each year's losses anew, also those of the year 0 and of the year 9. */
    private static void anAnswerIsTheSameWhenAskedAgain() {
        LossHouse house = Check.houseWith("layer a 100 xs 0 yearly 150;");
        for (int i = 0; i < 9; i++) {
            house.nextYear();
        }
        for (int year = 0; year <= 9; year++) {
            house.open(year, 0, 90);
            house.open(year, 0, 90);
        }
        for (int times = 0; times < 3; times++) {
            for (int year = 0; year <= 9; year++) {
                Check.same("used in the year " + year, house.used(0, year, 0), 150);
                Check.same("the first claim of " + year, house.gets(0, 2 * year, false), 90);
                Check.same("the second claim of " + year, house.gets(0, 2 * year + 1, false), 60);
                Check.same("what is left of the year " + year, house.triangle(3, year, 9 - year), 30);
            }
            Check.same("count(7)", house.count(7), 300);
            Check.same("without(0)", house.without(0), 1800);
            Check.same("would", house.would(19, 0, 0), 270);
        }
    }

    /** "A claim gets what the layer bears of it * share / 100 (100 without a share)." */
    private static void aShareIsCut() {
        gets(with("layer a 1000 xs 0 share 1;", 99, 100, 199, 200), 0, 1, 1, 2);
        gets(with("layer a 1000 xs 0 share 99;", 1, 100, 101, 2), 0, 99, 99, 1);
        gets(with("layer a 1000 xs 0 share 100;", 1, 99), 1, 99);
        LossHouse house = with("layer a 1000 xs 0;", 1, 99);
        gets(house, 1, 99);
        Check.same("layer(0, 0) without a share", house.layer(0, 0), 100);
        LossHouse cut = with("layer a 1000 xs 0 share 1 yearly 150;", 99, 99);
        Check.same("it bears, though nothing is got", cut.used(0, 0, 0), 150);
        Check.same("claims of which something is borne", cut.used(0, 0, 3), 2);
        gets(cut, 0, 0);
    }

    /** "What is left of a claim is its amount, less what it gets from all layers, but at least 0." */
    private static void whatIsLeftIsAtLeast0() {
        LossHouse house = Check.houseWith("layer a 60 xs 0; layer b 39 + line xs 0;");
        for (int line = 0; line <= 2; line++) {
            house.open(0, line, 100);
            Check.same("left", house.claim(line, 7), line == 0 ? 1 : 0);
            Check.same("all that is left", house.count(7), 1);
        }
        Check.same("what all layers give can be more", house.would(2, 100, 1), 101);
        Check.same("kept", house.kept(), 1.0 / 300.0);
    }
}
