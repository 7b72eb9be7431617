/** Terms, 4: triangles, sentence by sentence, and promises 18 to 24. */
final class TriangleEdgeTest {
    public static void main(String[] args) {
        thereAreFourKinds();
        anAgeIsAtMostThatOfTheYear();
        whatIsLeftIsByTheLayersOfNowAndTheClaimsOfThen();
        claimsOfThenTakeFromTheBoundsOfThen();
        aFactorIsOfYearsOlderThanItsAge();
        aFactorIs1000WithoutYears();
        aFactorIs1000IfTheAgeComesTo0();
        aFactorIsAtMost1000000();
        aFactorIsCut();
        factorsDoNotWrapAround();
        anUltimateIsCutAtEachStep();
        anUltimateIsHeldAfterEachStep();
        anUltimateGoesUpToTheAge8();
        theTailIs1000AtFirst();
        aGrowthIsCutAtEachStep();
        aGrowthIsHeldAfterEachStep();
        reservesByTheMethods0And1();
        theReserveByTheMethod2IsCutAtEachStep();
        theReserveByTheMethod2CutsTheQuotient();
        theReserveByTheMethod2IsAtLeast0();
        theReserveByTheMethod2OfGreatGrowths();
        premiumsAre0AtFirst();
        theWorstYearIsTheEarliestOfSeveral();
        Check.end();
    }

    /** Of each year one claim, with what it has incurred at its ages; as many years as rows. */
    private static LossHouse incurred(int[]... rows) {
        LossHouse house = new LossHouse();
        for (int now = 0; now < rows.length; now++) {
            for (int year = 0; year < now; year++) {
                house.setReserve(year, rows[year][now - year]);
            }
            house.open(now, 0, rows[now][0]);
            goOn(house, now, rows.length);
        }
        return house;
    }

    /** Of each year one claim, with what is paid of it at its ages. */
    private static LossHouse paid(int[]... rows) {
        LossHouse house = new LossHouse();
        for (int now = 0; now < rows.length; now++) {
            house.open(now, 0, 0);
            for (int year = 0; year <= now; year++) {
                int more = rows[year][now - year] - house.claim(year, 2);
                if (more > 0) {
                    house.pay(year, more);
                }
            }
            goOn(house, now, rows.length);
        }
        return house;
    }

    private static void goOn(LossHouse house, int now, int years) {
        if (now + 1 < years) {
            house.nextYear();
        }
    }

    /** "There are four kinds: 0 paid, 1 incurred, 2 paid, what is left, 3 incurred, what is left." */
    private static void thereAreFourKinds() {
        LossHouse house = Check.houseWith("layer a 100 xs 50;");
        house.open(0, 0, 200);
        house.pay(0, 70);
        house.open(0, 0, 40);
        int[] due = {70, 240, 50, 140};
        for (int kind = 0; kind <= 3; kind++) {
            Check.same("triangle(" + kind + ", 0, 0)", house.triangle(kind, 0, 0), due[kind]);
        }
        Check.noIndex("the kind 4", house, () -> house.triangle(4, 0, 0));
        Check.noIndex("the kind -1", house, () -> house.triangle(-1, 0, 0));
    }

    /** "an age, that is not greater than the age of the year" */
    private static void anAgeIsAtMostThatOfTheYear() {
        LossHouse house = incurred(new int[][] {{1, 2, 3, 4}, {11, 12, 13}, {21, 22}, {31}});
        for (int year = 0; year <= 3; year++) {
            int told = year;
            for (int age = 0; age <= 3 - year; age++) {
                Check.same("triangle(1, " + year + ", " + age + ")", house.triangle(1, year, age), 10 * year + age + 1);
            }
            Check.noIndex("a greater age", house, () -> house.triangle(1, told, 4 - told));
            Check.noIndex("the age -1", house, () -> house.triangle(1, told, -1));
        }
        Check.noIndex("the next year", house, () -> house.triangle(1, 4, 0));
        Check.noIndex("the year -1", house, () -> house.triangle(1, -1, 0));
        LossHouse old = incurred(new int[][] {{1, 2, 3, 4, 5, 6, 7, 8, 9, 10}, {0, 0, 0, 0, 0, 0, 0, 0, 0}, {0, 0, 0, 0, 0, 0, 0, 0},
            {0, 0, 0, 0, 0, 0, 0}, {0, 0, 0, 0, 0, 0}, {0, 0, 0, 0, 0}, {0, 0, 0, 0}, {0, 0, 0}, {0, 0}, {99}});
        Check.same("the age 9", old.triangle(1, 0, 9), 10);
        Check.same("the age 8", old.triangle(1, 0, 8), 9);
        Check.same("the year 9", old.triangle(1, 9, 0), 99);
        Check.noIndex("the age 10", old, () -> old.triangle(1, 0, 10));
        Check.noIndex("the age 1 of the year 9", old, () -> old.triangle(1, 9, 1));
    }

    /** "(what is left: by the layers that there are now, as if the claims were as they were then)" */
    private static void whatIsLeftIsByTheLayersOfNowAndTheClaimsOfThen() {
        LossHouse house = Check.houseWith("layer a 100 xs 10;");
        house.open(0, 0, 50);
        house.pay(0, 30);
        house.nextYear();
        house.pay(0, 90);
        house.close(0, true);
        house.nextYear();
        int[][] due = {{10, 20, 20}, {10, 20, 20}};
        for (int age = 0; age <= 2; age++) {
            Check.same("of what is paid", house.triangle(2, 0, age), due[0][age]);
            Check.same("of what is incurred", house.triangle(3, 0, age), due[1][age]);
        }
        Check.taught(house, "layer a 1000 xs 0 share 50 when amount > 49;");
        int[][] other = {{30, 60, 60}, {25, 60, 60}};
        for (int age = 0; age <= 2; age++) {
            Check.same("of what is paid, by other layers", house.triangle(2, 0, age), other[0][age]);
            Check.same("of what is incurred, by other layers", house.triangle(3, 0, age), other[1][age]);
        }
        Check.taught(house, "");
        Check.same("of what is paid, without layers", house.triangle(2, 0, 0), 30);
        Check.same("of what is incurred, without layers", house.triangle(3, 0, 1), 120);
    }

    /** The bound of a year is taken anew at each age, by the claims that were opened then. */
    private static void claimsOfThenTakeFromTheBoundsOfThen() {
        LossHouse house = Check.houseWith("layer a 1000 xs 0 yearly 100;");
        house.open(0, 0, 80);
        house.open(0, 0, 70);
        house.nextYear();
        house.setReserve(0, 30);
        house.open(0, 0, 60);
        house.open(1, 0, 90);
        house.nextYear();
        house.close(0, true);
        house.setReserve(3, 130);
        int[][] due = {{50, 60, 30}, {0, 30}, {0}};
        for (int year = 0; year <= 2; year++) {
            for (int age = 0; age <= 2 - year; age++) {
                Check.same("triangle(3, " + year + ", " + age + ")", house.triangle(3, year, age), due[year][age]);
            }
        }
    }

    /** "of all years that are at least one year older than this age" */
    private static void aFactorIsOfYearsOlderThanItsAge() {
        LossHouse house = incurred(new int[][] {{100, 150, 300}, {200, 500}, {7}});
        Check.same("of the years 0 and 1", house.factor(1, 0), 650000 / 300);
        Check.same("of the year 0", house.factor(1, 1), 2000);
        Check.same("of none", house.factor(1, 2), 1000);
        house.nextYear();
        // what is incurred stays: the year 2 is older than the age 0 now, the year 1 older than the age 1
        Check.same("of the years 0 to 2", house.factor(1, 0), 657000 / 307);
        Check.same("of the years 0 and 1", house.factor(1, 1), 800000 / 650);
        Check.same("of the year 0", house.factor(1, 2), 1000);
    }

    /** "1000, if .. (or there are none)" */
    private static void aFactorIs1000WithoutYears() {
        LossHouse house = new LossHouse();
        house.open(0, 0, 1);
        house.pay(0, 1);
        for (int now = 0; now <= 9; now++) {
            if (now > 0) {
                house.nextYear();
                house.setReserve(0, now);
            }
            for (int age = 0; age <= 8; age++) {
                int due = age < now ? (age + 2) * 1000 / (age + 1) : 1000;
                Check.same("factor(1, " + age + ") in the year " + now, house.factor(1, age), due);
                Check.same("factor(0, " + age + ") in the year " + now, house.factor(0, age), 1000);
            }
        }
    }

    /** "1000, if what they come to at the age is 0" */
    private static void aFactorIs1000IfTheAgeComesTo0() {
        Check.same("from 0 to 500", incurred(new int[] {0, 500}, new int[] {9}).factor(1, 0), 1000);
        Check.same("from 0 to 0", incurred(new int[] {0, 0}, new int[] {9}).factor(1, 0), 1000);
        Check.same("from 1 to 500", incurred(new int[] {1, 500}, new int[] {9}).factor(1, 0), 500000);
        Check.same("from 1 to 0", incurred(new int[] {1, 0}, new int[] {9}).factor(1, 0), 0);
        Check.same("from 0 and 0", incurred(new int[][] {{0, 5, 5}, {0, 5}, {9}}).factor(1, 0), 1000);
        Check.same("from 0 and 1", incurred(new int[][] {{0, 5, 5}, {1, 5}, {9}}).factor(1, 0), 10000);
        // by what is left: all is given at the age 0
        LossHouse house = incurred(new int[] {40, 60}, new int[] {9});
        Check.taught(house, "layer a 40 xs 0;");
        Check.same("from 0 to 20, what is left", house.factor(3, 0), 1000);
        Check.taught(house, "layer a 39 xs 0;");
        Check.same("from 1 to 21, what is left", house.factor(3, 0), 21000);
    }

    /** "but at most 1000000" */
    private static void aFactorIsAtMost1000000() {
        Check.same("from 1000 to 999999", incurred(new int[] {1000, 999999}, new int[] {0}).factor(1, 0), 999999);
        Check.same("from 1000 to 1000000", incurred(new int[] {1000, 1000000}, new int[] {0}).factor(1, 0), 1000000);
        LossHouse house = incurred(new int[] {1000, 0}, new int[] {0});
        house.pay(0, 1);
        house.setReserve(0, 1000000);
        Check.same("from 1000 to 1000001", house.factor(1, 0), 1000000);
        Check.same("from 1 to 999", incurred(new int[] {1, 999}, new int[] {0}).factor(1, 0), 999000);
        Check.same("from 1 to 1000", incurred(new int[] {1, 1000}, new int[] {0}).factor(1, 0), 1000000);
        Check.same("from 1 to 1001", incurred(new int[] {1, 1001}, new int[] {0}).factor(1, 0), 1000000);
        Check.same("from 1 to 1000000", incurred(new int[] {1, 1000000}, new int[] {0}).factor(1, 0), 1000000);
    }

    private static void aFactorIsCut() {
        Check.same("from 3 to 10", incurred(new int[] {3, 10}, new int[] {0}).factor(1, 0), 3333);
        Check.same("from 3 to 2", incurred(new int[] {3, 2}, new int[] {0}).factor(1, 0), 666);
        Check.same("from 1001 to 1", incurred(new int[] {1001, 1}, new int[] {0}).factor(1, 0), 0);
        Check.same("from 1000 to 1", incurred(new int[] {1000, 1}, new int[] {0}).factor(1, 0), 1);
        // added first, then divided
        Check.same("from 3 and 3", incurred(new int[][] {{3, 5, 0}, {3, 5}, {0}}).factor(1, 0), 1666);
    }

    /** What is added, * 1000, goes beyond 32 bits: 40 claims of 2000000. */
    private static void factorsDoNotWrapAround() {
        LossHouse house = new LossHouse();
        for (int i = 0; i < 40; i++) {
            house.open(0, 0, 1000000);
            house.pay(i, 1000000);
        }
        house.nextYear();
        for (int i = 0; i < 40; i++) {
            house.setReserve(i, 1000000);
        }
        Check.same("from 40000000 to 80000000", house.factor(1, 0), 2000);
        Check.same("paid", house.factor(0, 0), 1000);
        Check.same("the ultimate of the year 0", house.ultimate(1, 0, false), 80000000);
    }

    /** "what it comes to now, * the factor of its age / 1000, this * the factor of the next age / 1000, .. each step cut" */
    private static void anUltimateIsCutAtEachStep() {
        LossHouse house = incurred(new int[][] {{2, 3, 4}, {0, 0}, {15}});
        Check.same("factor(1, 0)", house.factor(1, 0), 1500);
        Check.same("factor(1, 1)", house.factor(1, 1), 1333);
        // 22, 29, and by the tail 31; uncut it would be 32
        Check.same("with the tail 1000", house.ultimate(1, 2, false), 29);
        house.setTail(1100);
        Check.same("with the tail 1100", house.ultimate(1, 2, false), 31);
        Check.same("from its own age on", house.ultimate(1, 0, false), 4);
        Check.same("of nothing", house.ultimate(1, 1, false), 0);
    }

    /** "It is held at 2000000000 after each step." */
    private static void anUltimateIsHeldAfterEachStep() {
        heldAt(1999999000, 999999500, 1000000, 999999);
        heldAt(2000000000, 1000000000, 1000000, 1000000);
        heldAt(2000000000, 1000000000, 1000000, 1000000, 1);
        heldAt(2000000000, 1000000000, 1000000, 1000000, 1000000);
        LossHouse house = grownAndHalved(1000000, 1000000, 1000000);
        int[] tails = {1999, 2000, 2001, 3000};
        int[] due = {1999000000, 2000000000, 2000000000, 2000000000};
        for (int i = 0; i < tails.length; i++) {
            house.setTail(tails[i]);
            Check.same("with the tail " + tails[i], house.ultimate(1, 2, false), due[i]);
        }
    }

    private static void heldAt(int first, int second, int... reserves) {
        LossHouse house = grown();
        for (int reserve : reserves) {
            house.open(1, 0, reserve);
        }
        Check.same("factor(1, 0)", house.factor(1, 0), 1000000);
        Check.same("one step", house.ultimate(1, 1, false), first);
        LossHouse later = grownAndHalved(reserves);
        Check.same("factor(1, 0)", later.factor(1, 0), 1000000);
        Check.same("factor(1, 1)", later.factor(1, 1), 500);
        Check.same("two steps", later.ultimate(1, 2, false), second);
    }

    /** The factor of the age 0 is 1000000. */
    private static LossHouse grown() {
        LossHouse house = new LossHouse();
        house.open(0, 0, 1);
        house.nextYear();
        house.setReserve(0, 1000000);
        return house;
    }

    /** Behind it the factor of the age 1 is 500; in the year 2 there are claims with these reserves. */
    private static LossHouse grownAndHalved(int... reserves) {
        LossHouse house = grown();
        house.nextYear();
        house.setReserve(0, 500000);
        for (int reserve : reserves) {
            house.open(2, 0, reserve);
        }
        return house;
    }

    /** "and so on up to the age 8, .. and at last * the tail / 1000" */
    private static void anUltimateGoesUpToTheAge8() {
        int[][] rows = new int[10][];
        for (int year = 0; year <= 9; year++) {
            rows[year] = new int[10 - year];
        }
        rows[0] = new int[] {1000, 1100, 1210, 1331, 1465, 1612, 1774, 1952, 2148, 2363};
        rows[9] = new int[] {1000000};
        LossHouse house = incurred(rows);
        long due = 1000000;
        for (int age = 0; age <= 8; age++) {
            int factor = rows[0][age + 1] * 1000 / rows[0][age];
            Check.same("factor(1, " + age + ")", house.factor(1, age), factor);
            due = due * factor / 1000;
        }
        Check.same("the ultimate of the year 9", house.ultimate(1, 9, false), due);
        Check.same("the ultimate of the year 0: by the tail alone", house.ultimate(1, 0, false), 2363);
        house.setTail(1500);
        Check.same("the ultimate of the year 9", house.ultimate(1, 9, false), due * 1500 / 1000);
        Check.same("the ultimate of the year 0", house.ultimate(1, 0, false), 3544);
        Check.same("the growth of the year 0", house.ultimate(1, 0, true), 1500);
        Check.same("the growth of the year 1", house.ultimate(1, 1, true), house.factor(1, 8) * 1500 / 1000);
    }

    /** "(1000, at first)" */
    private static void theTailIs1000AtFirst() {
        LossHouse house = new LossHouse();
        house.open(0, 0, 777);
        Check.same("ultimate", house.ultimate(1, 0, false), 777);
        Check.same("growth", house.ultimate(1, 0, true), 1000);
        Check.same("setTail", house.setTail(3000), 1000);
        Check.same("ultimate", house.ultimate(1, 0, false), 2331);
        Check.same("growth", house.ultimate(1, 0, true), 3000);
        Check.same("setTail", house.setTail(1000), 3000);
        Check.noArgument("setTail(999)", house, () -> house.setTail(999));
        Check.noArgument("setTail(3001)", house, () -> house.setTail(3001));
        Check.same("ultimate", house.ultimate(1, 0, false), 777);
    }

    /** "1000, * the same factors / 1000 each, and the tail, likewise" */
    private static void aGrowthIsCutAtEachStep() {
        LossHouse house = incurred(new int[][] {{9, 12, 16}, {0, 0}, {0}});
        Check.same("factor(1, 0)", house.factor(1, 0), 1333);
        Check.same("factor(1, 1)", house.factor(1, 1), 1333);
        Check.same("growth(1, 2)", house.ultimate(1, 2, true), 1776);
        house.setTail(1001);
        // uncut it would be 1778
        Check.same("growth(1, 2) with a tail", house.ultimate(1, 2, true), 1777);
        Check.same("growth(1, 1) with a tail", house.ultimate(1, 1, true), 1334);
        Check.same("growth(0, 2) of nothing", house.ultimate(0, 2, true), 1001);
    }

    private static void aGrowthIsHeldAfterEachStep() {
        LossHouse house = incurred(new int[][] {{0, 0, 1, 1000}, {0, 1, 1000}, {1, 1000}, {0}});
        int[] due = {1000, 1000000, 1000000000, 2000000000};
        for (int year = 0; year <= 3; year++) {
            Check.same("growth(1, " + year + ")", house.ultimate(1, year, true), due[year]);
        }
        int[] tails = {1999, 2000, 2001};
        int[] tailed = {1999000000, 2000000000, 2000000000};
        for (int i = 0; i < 3; i++) {
            house.setTail(tails[i]);
            Check.same("growth(1, 2) with a tail", house.ultimate(1, 2, true), tailed[i]);
            Check.same("growth(1, 3) with a tail", house.ultimate(1, 3, true), 2000000000);
        }
        // a factor 500 behind what is held, and a factor 0
        LossHouse halved = incurred(new int[][] {{0, 0, 1, 1000, 500}, {0, 0, 1, 1000}, {0, 1, 1000}, {1, 1000}, {0}});
        Check.same("growth(1, 4)", halved.ultimate(1, 4, true), 1000000000);
        halved.setReserve(0, 0);
        Check.same("growth(1, 4) with the factor 0", halved.ultimate(1, 4, true), 0);
    }

    /** "(both can be less than 0)" */
    private static void reservesByTheMethods0And1() {
        LossHouse house = new LossHouse();
        house.open(0, 0, 100);
        house.pay(0, 50);
        house.nextYear();
        house.pay(0, 25);
        house.open(1, 0, 200);
        house.pay(1, 60);
        // paid 50, 75; incurred 100, 100
        Check.same("reserve(0, 0)", house.reserve(0, 0), 0);
        Check.same("reserve(1, 0)", house.reserve(1, 0), 25);
        Check.same("reserve(0, 1)", house.reserve(0, 1), 30);
        Check.same("reserve(1, 1)", house.reserve(1, 1), 140);
        house.setReserve(0, 0);
        // incurred 100, 75: of 200 150 are left
        Check.same("reserve(1, 1)", house.reserve(1, 1), 90);
        house.close(1, true);
        Check.same("reserve(1, 1) less than 0", house.reserve(1, 1), -15);
        house.pay(0, 25);
        Check.same("reserve(1, 1) of 0", house.reserve(1, 1), 0);
        Check.same("reserve(0, 1)", house.reserve(0, 1), 60);
        Check.noIndex("the method 3", house, () -> house.reserve(3, 0));
        Check.noIndex("the year 2", house, () -> house.reserve(0, 2));
        LossHouse held = paid(new int[] {1, 1000}, new int[] {1000000});
        for (int i = 2; i < 5; i++) {
            held.open(1, 0, 0);
            held.pay(i, 1000000);
        }
        Check.same("less what is paid of what is held", held.reserve(0, 1), 2000000000 - 4000000);
    }

    /** "premium * expected / 100, this * (1000 - 1000000 / the growth of the kind 0) / 1000, each step cut" */
    private static void theReserveByTheMethod2IsCutAtEachStep() {
        LossHouse house = new LossHouse();
        // the growth is the tail
        int[][] rows = {{1001, 999, 100, 0}, {1001, 1000, 100, 1}, {1001, 1999, 100, 1}, {1001, 2000, 100, 2},
            {3000, 1, 100, 0}, {3000, 2, 100, 1}, {3000, 199, 1, 0}, {3000, 200, 1, 1}, {3000, 299, 1, 1}, {3000, 300, 1, 2},
            {3000, 99, 200, 132}, {3000, 1000, 100, 667}, {2000, 1000, 100, 500}, {1999, 1000, 100, 500}, {2001, 1000, 100, 501},
            {3000, 10000000, 200, 13340000}, {3000, 0, 200, 0}, {3000, 10000000, 0, 0}};
        for (int[] row : rows) {
            house.setTail(row[0]);
            house.setPremium(0, row[1], row[2]);
            Check.same("reserve(2, 0) with " + row[1] + ", " + row[2] + ", " + row[0], house.reserve(2, 0), row[3]);
        }
    }

    /** "(1000 - 1000000 / the growth of the kind 0)" is cut before it is taken off: 1000000 / 9901 is 100, 1000000 / 9900 101. */
    private static void theReserveByTheMethod2CutsTheQuotient() {
        int[] growths = {9900, 9901, 10000, 10001, 999999, 1000000};
        int[] due = {89900, 90000, 90000, 90100, 99900, 99900};
        for (int i = 0; i < growths.length; i++) {
            LossHouse house = paid(new int[] {1000, growths[i]}, new int[] {0});
            house.setPremium(1, 100000, 100);
            Check.same("growth(0, 1)", house.ultimate(0, 1, true), growths[i]);
            Check.same("reserve(2, 1) with the growth " + growths[i], house.reserve(2, 1), due[i]);
        }
        LossHouse beyond = paid(new int[][] {{0, 1, 1001}, {1, 1000}, {0}});
        beyond.setPremium(2, 100000, 100);
        Check.same("growth(0, 2)", beyond.ultimate(0, 2, true), 1000000000);
        Check.same("reserve(2, 2) with a growth beyond 1000000", beyond.reserve(2, 2), 100000);
    }

    /** "but at least 0": the growth of the kind 0 is never less than 1000, with which it is 0. */
    private static void theReserveByTheMethod2IsAtLeast0() {
        LossHouse house = new LossHouse();
        house.setPremium(0, 10000000, 200);
        Check.same("with the growth 1000", house.reserve(2, 0), 0);
        house.setTail(1001);
        Check.same("with the growth 1001", house.reserve(2, 0), 20000);
        // the growth of what is incurred is 0, that of what is paid is not: it is the one that counts
        LossHouse other = incurred(new int[] {100, 0}, new int[] {50});
        other.setPremium(1, 1000, 100);
        Check.same("growth(1, 1)", other.ultimate(1, 1, true), 0);
        Check.same("growth(0, 1)", other.ultimate(0, 1, true), 1000);
        Check.same("reserve(2, 1)", other.reserve(2, 1), 0);
        other.setTail(2000);
        Check.same("growth(1, 1)", other.ultimate(1, 1, true), 0);
        Check.same("growth(0, 1)", other.ultimate(0, 1, true), 2000);
        Check.same("reserve(2, 1)", other.reserve(2, 1), 500);
        Check.same("reserve(1, 1)", other.reserve(1, 1), 0);
    }

    private static void theReserveByTheMethod2OfGreatGrowths() {
        LossHouse house = paid(new int[][] {{0, 0, 1, 1000}, {0, 1, 1000}, {1, 1000}, {0}});
        for (int year = 0; year <= 3; year++) {
            house.setPremium(year, 10000000, 200);
        }
        Check.same("growth(0, 1)", house.ultimate(0, 1, true), 1000000);
        Check.same("growth(0, 3)", house.ultimate(0, 3, true), 2000000000);
        int[] due = {0, 19980000, 20000000, 20000000};
        for (int year = 0; year <= 3; year++) {
            Check.same("reserve(2, " + year + ")", house.reserve(2, year), due[year]);
        }
        house.setTail(1001);
        Check.same("with a growth beyond 1000000", house.reserve(2, 1), 20000000);
        // layers leave what is paid as it is
        Check.taught(house, "layer a 1000000 xs 0;");
        Check.same("with a layer", house.reserve(2, 1), 20000000);
    }

    /** "told by years (0, at first)" */
    private static void premiumsAre0AtFirst() {
        LossHouse house = new LossHouse();
        house.setTail(2000);
        for (int year = 0; year <= 9; year++) {
            Check.same("setPremium of " + year, house.setPremium(year, 1000 + year, 100), 0);
        }
        for (int year = 0; year <= 9; year++) {
            Check.same("reserve(2, " + year + ")", house.reserve(2, year), (1000 + year) / 2);
            Check.same("setPremium of " + year, house.setPremium(year, 10000000, 200), 1000 + year);
            Check.same("reserve(2, " + year + ")", house.reserve(2, year), 10000000);
            Check.same("setPremium of " + year, house.setPremium(year, 0, 0), 10000000);
            Check.same("setPremium of " + year, house.setPremium(year, 10, 0), 0);
            Check.same("reserve(2, " + year + ")", house.reserve(2, year), 0);
            if (year < 9) {
                house.nextYear();
            }
        }
        LossHouse fresh = new LossHouse();
        fresh.setTail(3000);
        Check.same("reserve(2, 0) without a premium", fresh.reserve(2, 0), 0);
    }

    /** "with the greatest reserve by it, of several the earliest one" */
    private static void theWorstYearIsTheEarliestOfSeveral() {
        worst(0, 0, 0, 0);
        worst(2, 5, 6, 7);
        worst(0, 7, 6, 5);
        worst(1, 5, 7, 6);
        worst(0, 7, 7, 5);
        worst(1, 5, 7, 7);
        worst(0, 7, 5, 7);
        worst(0, 7, 7, 7);
        worst(0, 1, 0, 0);
        worst(2, 0, 0, 1);
        worst(0, 9);
        LossHouse house = new LossHouse();
        for (int method = 0; method <= 2; method++) {
            Check.same("worst(" + method + ") of a new house", house.worst(method), 0);
        }
        Check.noIndex("worst(3)", house, () -> house.worst(3));
        Check.noIndex("worst(-1)", house, () -> house.worst(-1));
        // the years that are not yet: their premiums do not count
        house.setTail(2000);
        house.setPremium(0, 1, 100);
        house.setPremium(1, 1000, 100);
        Check.same("worst(2) in the year 0", house.worst(2), 0);
        house.nextYear();
        Check.same("worst(2) in the year 1", house.worst(2), 1);
        Check.same("worst(0)", house.worst(0), 0);
        worstWithYearsBelow0();
    }

    private static void worst(int due, int... reserves) {
        LossHouse house = new LossHouse();
        for (int year = 0; year < reserves.length; year++) {
            house.open(year, 0, reserves[year]);
            goOn(house, year, reserves.length);
        }
        Check.same("worst(1)", house.worst(1), due);
    }

    /** That of the year 0 never is: no factor below 1000 comes behind the oldest year. */
    private static void worstWithYearsBelow0() {
        LossHouse house = new LossHouse();
        house.open(0, 0, 1000);
        house.nextYear();
        house.setReserve(0, 1000);
        house.nextYear();
        house.close(0, true);
        // the factor of the age 1 is 0; of the year 0 nothing is paid, of the years 1 and 2 all
        house.open(1, 0, 0);
        house.pay(1, 300);
        house.open(2, 0, 0);
        house.pay(2, 200);
        Check.same("reserve(1, 0)", house.reserve(1, 0), 0);
        Check.same("reserve(1, 1)", house.reserve(1, 1), -300);
        Check.same("reserve(1, 2)", house.reserve(1, 2), -200);
        Check.same("worst(1)", house.worst(1), 0);
    }
}
