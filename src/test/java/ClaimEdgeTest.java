/** Terms, 2: years and claims, sentence by sentence, and promises 9 to 14 and 17. */
final class ClaimEdgeTest {
    public static void main(String[] args) {
        yearsAre0To9();
        nowIs0AtFirst();
        linesAre0To5();
        reservesAre0To1000000();
        thereAreAtMost40();
        claimsAreNumberedInTheirOrder();
        theYearOfAClaimIsAtMostNow();
        paidIsAtMost1000000();
        aPaymentIs1To1000000();
        theReserveIsAsMuchLessButAtLeast0();
        incurredIsPaidAndReserve();
        whatIsLeftIsOfPaidOrIncurred();
        allIsOfAllClaims();
        aClosedClaimHasTheReserve0();
        aClosedClaimTakesNothing();
        anAgeIsNowLessTheYear();
        whatIsWrittenDownStays();
        whatIsNowIsThatOfTheAgeThatIsNow();
        nothingAtAgesBeforeAClaimWasOpened();
        the512thCallAnswersAsTheFirst();
        Check.end();
    }

    private static LossHouse houseIn(int year) {
        LossHouse house = new LossHouse();
        for (int i = 0; i < year; i++) {
            house.nextYear();
        }
        return house;
    }

    /** "Years are 0 to 9" */
    private static void yearsAre0To9() {
        LossHouse house = new LossHouse();
        for (int year = 1; year <= 9; year++) {
            Check.same("nextYear()", house.nextYear(), year);
            Check.same("count(3)", house.count(3), year);
        }
        for (int i = 0; i < 3; i++) {
            Check.noState("nextYear() behind the year 9", house, house::nextYear);
            Check.same("count(3)", house.count(3), 9);
        }
        Check.same("open in the year 9", house.open(9, 0, 1), 0);
        Check.same("open in the year 0", house.open(0, 0, 1), 1);
        Check.same("an age 9", house.at(1, 9, false), 1);
        Check.noIndex("an age 10", house, () -> house.at(1, 10, false));
    }

    /** "one of them is now (0, at first)" */
    private static void nowIs0AtFirst() {
        LossHouse house = new LossHouse();
        Check.same("count(3)", house.count(3), 0);
        Check.noArgument("open(1, 0, 0)", house, () -> house.open(1, 0, 0));
        Check.same("open(0, 0, 0)", house.open(0, 0, 0), 0);
    }

    /** "a line, 0 to 5" */
    private static void linesAre0To5() {
        LossHouse house = new LossHouse();
        for (int line = 0; line <= 5; line++) {
            Check.same("open", house.open(0, line, 1), line);
            Check.same("its line", house.claim(line, 1), line);
        }
        Check.noArgument("the line -1", house, () -> house.open(0, -1, 1));
        Check.noArgument("the line 6", house, () -> house.open(0, 6, 1));
    }

    /** "a reserve, 0 to 1000000" */
    private static void reservesAre0To1000000() {
        LossHouse house = new LossHouse();
        int[] reserves = {0, 1, 999999, 1000000};
        for (int i = 0; i < reserves.length; i++) {
            Check.same("open", house.open(0, 0, reserves[i]), i);
            Check.same("its reserve", house.claim(i, 3), reserves[i]);
            Check.same("setReserve", house.setReserve(i, 1000000), reserves[i]);
            Check.same("setReserve", house.setReserve(i, reserves[i]), 1000000);
            Check.same("its reserve", house.claim(i, 3), reserves[i]);
        }
        for (int wrong : new int[] {-1, 1000001, Integer.MIN_VALUE, Integer.MAX_VALUE}) {
            Check.noArgument("open with " + wrong, house, () -> house.open(0, 0, wrong));
            Check.noArgument("setReserve to " + wrong, house, () -> house.setReserve(0, wrong));
            Check.noArgument("would with " + wrong, house, () -> house.would(0, wrong, 0));
        }
    }

    /** "There are at most 40": closed ones, too. */
    private static void thereAreAtMost40() {
        LossHouse house = new LossHouse();
        for (int i = 0; i < 40; i++) {
            Check.same("open", house.open(0, 0, i), i);
        }
        Check.noState("open with 40", house, () -> house.open(0, 0, 0));
        house.close(39, true);
        Check.noState("open with 39 that are open", house, () -> house.open(0, 0, 0));
        house.nextYear();
        Check.noState("open in another year", house, () -> house.open(1, 0, 0));
        Check.same("count(1)", house.count(1), 40);
        Check.same("count(2)", house.count(2), 39);
        Check.same("the last one", house.claim(38, 3), 38);
        Check.noIndex("the claim 40", house, () -> house.claim(40, 0));
    }

    /** "numbered from 0 in the order of their opening": whatever their years are. */
    private static void claimsAreNumberedInTheirOrder() {
        LossHouse house = houseIn(3);
        int[] years = {3, 0, 2, 0, 3, 1};
        for (int i = 0; i < years.length; i++) {
            Check.same("open", house.open(years[i], i, 100 + i), i);
        }
        for (int i = 0; i < years.length; i++) {
            Check.same("its year", house.claim(i, 0), years[i]);
            Check.same("its line", house.claim(i, 1), i);
            Check.same("its reserve", house.claim(i, 3), 100 + i);
            Check.same("nothing is paid of it", house.claim(i, 2), 0);
            Check.same("it is open", house.claim(i, 5), 1);
        }
        Check.noIndex("the next one", house, () -> house.claim(6, 0));
        Check.noIndex("none ahead of the first", house, () -> house.claim(-1, 0));
    }

    /** "year is not 0 to the one that is now" */
    private static void theYearOfAClaimIsAtMostNow() {
        for (int now = 0; now <= 9; now++) {
            LossHouse house = houseIn(now);
            int next = now + 1;
            Check.same("open in the year that is now", house.open(now, 0, 0), 0);
            Check.same("open in the year 0", house.open(0, 0, 0), 1);
            Check.noArgument("open in the next year", house, () -> house.open(next, 0, 0));
            Check.noArgument("open in the year -1", house, () -> house.open(-1, 0, 0));
        }
    }

    /** "all its payments, added, at most 1000000" */
    private static void paidIsAtMost1000000() {
        LossHouse house = new LossHouse();
        house.open(0, 0, 500);
        Check.same("pay", house.pay(0, 999999), 999999);
        Check.noState("pay to 1000001", house, () -> house.pay(0, 2));
        Check.noState("pay to 1999999", house, () -> house.pay(0, 1000000));
        Check.same("pay to 1000000", house.pay(0, 1), 1000000);
        Check.noState("pay to 1000001", house, () -> house.pay(0, 1));
        house.open(0, 0, 0);
        Check.same("pay all at once", house.pay(1, 1000000), 1000000);
        Check.noState("pay to 2000000", house, () -> house.pay(1, 1000000));
        Check.same("count(5)", house.count(5), 2000000);
    }

    /** "amount is not 1 to 1000000" */
    private static void aPaymentIs1To1000000() {
        LossHouse house = new LossHouse();
        house.open(0, 0, 5);
        for (int wrong : new int[] {0, -1, 1000001, Integer.MIN_VALUE, Integer.MAX_VALUE}) {
            Check.noArgument("pay " + wrong, house, () -> house.pay(0, wrong));
        }
        Check.same("pay 1", house.pay(0, 1), 1);
        Check.same("its reserve", house.claim(0, 3), 4);
    }

    /** "its reserve is as much less, but at least 0" */
    private static void theReserveIsAsMuchLessButAtLeast0() {
        int[] amounts = {1, 99, 100, 101, 1000000};
        int[] due = {99, 1, 0, 0, 0};
        for (int i = 0; i < amounts.length; i++) {
            LossHouse house = new LossHouse();
            house.open(0, 0, 100);
            Check.same("pay", house.pay(0, amounts[i]), amounts[i]);
            Check.same("reserve behind " + amounts[i], house.claim(0, 3), due[i]);
            Check.same("incurred behind " + amounts[i], house.claim(0, 4), Math.max(amounts[i], 100));
            Check.same("count(6) behind " + amounts[i], house.count(6), due[i]);
        }
    }

    /** "what it has incurred is this and its reserve" */
    private static void incurredIsPaidAndReserve() {
        LossHouse house = new LossHouse();
        house.open(0, 0, 0);
        Check.same("of nothing", house.claim(0, 4), 0);
        house.pay(0, 1000000);
        Check.same("of what is paid", house.claim(0, 4), 1000000);
        house.setReserve(0, 1000000);
        Check.same("the most", house.claim(0, 4), 2000000);
        Check.same("at now", house.at(0, 0, false), 2000000);
        Check.same("all is left", house.count(7), 2000000);
        house.nextYear();
        Check.same("at the end of the age 0", house.at(0, 0, false), 2000000);
    }

    /** "6 what is left of what is paid, 7 what is left of what it has incurred", each asked of a house that told nothing yet */
    private static void whatIsLeftIsOfPaidOrIncurred() {
        for (int what = 6; what <= 7; what++) {
            LossHouse house = Check.houseWith("layer a 10 xs 20;");
            house.open(0, 0, 100);
            house.pay(0, 25);
            Check.same("claim(0, " + what + ") asked first", house.claim(0, what), what == 6 ? 20 : 90);
            Check.same("claim(0, " + (13 - what) + ") asked then", house.claim(0, 13 - what), what == 6 ? 90 : 20);
            house.pay(0, 1);
            Check.same("claim(0, 6) behind a payment", house.claim(0, 6), 20);
            house.pay(0, 10);
            Check.same("claim(0, 6) behind another", house.claim(0, 6), 26);
        }
    }

    /** "5 all that is paid, 6 all reserves": of all claims, closed ones, too */
    private static void allIsOfAllClaims() {
        LossHouse house = new LossHouse();
        int[] all = {0, 0, 0};
        for (int what = 5; what <= 7; what++) {
            Check.same("count(" + what + ") of a new house", house.count(what), all[what - 5]);
        }
        for (int i = 0; i < 4; i++) {
            house.open(0, 0, 100 << i);
            house.pay(i, 7 + i);
        }
        Check.same("count(2)", house.count(2), 4);
        Check.same("count(5)", house.count(5), 7 + 8 + 9 + 10);
        Check.same("count(6)", house.count(6), 1500 - 34);
        Check.same("count(7)", house.count(7), 1500);
        house.close(1, true);
        Check.same("count(1) with a closed one", house.count(1), 4);
        Check.same("count(2) with a closed one", house.count(2), 3);
        Check.same("count(5) with a closed one", house.count(5), 34);
        Check.same("count(6) with a closed one", house.count(6), 1300 - 26);
        Check.same("count(7) with a closed one", house.count(7), 1308);
    }

    /** "Closes a claim, which has the reserve 0 then, or opens it again." */
    private static void aClosedClaimHasTheReserve0() {
        LossHouse house = new LossHouse();
        house.open(0, 0, 100);
        house.pay(0, 30);
        Check.same("close(0, false) of an open one", house.close(0, false), 70);
        Check.same("its reserve", house.claim(0, 3), 70);
        Check.same("close(0, true)", house.close(0, true), 70);
        Check.same("its reserve", house.claim(0, 3), 0);
        Check.same("its paid", house.claim(0, 2), 30);
        Check.same("it is closed", house.claim(0, 5), 0);
        Check.same("close(0, true) again", house.close(0, true), 0);
        Check.same("it is closed", house.claim(0, 5), 0);
        Check.same("close(0, false)", house.close(0, false), 0);
        Check.same("it is open", house.claim(0, 5), 1);
        Check.same("its reserve", house.claim(0, 3), 0);
        Check.same("setReserve", house.setReserve(0, 9), 0);
        Check.same("pay", house.pay(0, 1), 31);
    }

    /** "if it is closed" */
    private static void aClosedClaimTakesNothing() {
        LossHouse house = new LossHouse();
        house.open(0, 0, 100);
        house.open(0, 0, 100);
        house.close(0, true);
        Check.noState("pay", house, () -> house.pay(0, 1));
        Check.noState("setReserve", house, () -> house.setReserve(0, 0));
        Check.same("pay on another one", house.pay(1, 1), 1);
        Check.same("setReserve of another one", house.setReserve(1, 7), 99);
        house.nextYear();
        Check.noState("pay in the next year", house, () -> house.pay(0, 1));
        Check.same("would of a closed one", house.would(0, 5, 0), 5 + 8);
    }

    /** "The age of a year is now less it."; "age is not 0 to the age of its year" */
    private static void anAgeIsNowLessTheYear() {
        for (int now = 0; now <= 9; now += 3) {
            LossHouse house = houseIn(now);
            for (int year = 0; year <= now; year++) {
                house.open(year, 0, 5);
                int claim = year;
                int age = now - year;
                Check.same("at the age that is now", house.at(claim, age, false), 5);
                Check.noIndex("at a greater age", house, () -> house.at(claim, age + 1, false));
                Check.noIndex("at the age -1", house, () -> house.at(claim, -1, true));
            }
        }
    }

    /** "At the end of a year (when the next one begins) it is written down for each claim" */
    private static void whatIsWrittenDownStays() {
        LossHouse house = new LossHouse();
        house.open(0, 0, 100);
        for (int year = 0; year <= 9; year++) {
            if (year > 0) {
                house.nextYear();
            }
            house.pay(0, 10);
            house.setReserve(0, 100 + year);
        }
        house.close(0, true);
        for (int age = 0; age <= 8; age++) {
            Check.same("paid at the end of the age " + age, house.at(0, age, true), 10 * age + 10);
            Check.same("incurred at the end of the age " + age, house.at(0, age, false), 11 * age + 110);
        }
        Check.same("paid now", house.at(0, 9, true), 100);
        Check.same("incurred now", house.at(0, 9, false), 100);
    }

    /** "for the age that is now, it is that which is now" */
    private static void whatIsNowIsThatOfTheAgeThatIsNow() {
        LossHouse house = houseIn(1);
        house.open(0, 0, 50);
        house.open(1, 0, 60);
        Check.same("incurred of the year 0", house.at(0, 1, false), 50);
        Check.same("incurred of the year 1", house.at(1, 0, false), 60);
        house.pay(0, 20);
        house.pay(1, 70);
        Check.same("paid of the year 0", house.at(0, 1, true), 20);
        Check.same("incurred of the year 0", house.at(0, 1, false), 50);
        Check.same("paid of the year 1", house.at(1, 0, true), 70);
        Check.same("incurred of the year 1", house.at(1, 0, false), 70);
        house.nextYear();
        house.pay(1, 1);
        Check.same("paid at the end of the age 0", house.at(1, 0, true), 70);
        Check.same("paid now", house.at(1, 1, true), 71);
    }

    /** "nothing paid and nothing incurred for ages at whose end it was not opened yet" */
    private static void nothingAtAgesBeforeAClaimWasOpened() {
        for (int opened = 0; opened <= 9; opened++) {
            LossHouse house = houseIn(opened);
            house.open(0, 0, 100);
            house.pay(0, 30);
            for (int now = opened; now < 9; now++) {
                house.nextYear();
            }
            for (int age = 0; age <= 9; age++) {
                boolean isOpened = age >= opened;
                Check.same("paid at " + age + ", opened in " + opened, house.at(0, age, true), isOpened ? 30 : 0);
                Check.same("incurred at " + age + ", opened in " + opened, house.at(0, age, false), isOpened ? 100 : 0);
                Check.same("triangle of paid", house.triangle(0, 0, age), isOpened ? 30 : 0);
                Check.same("triangle of incurred, what is left", house.triangle(3, 0, age), isOpened ? 100 : 0);
            }
        }
    }

    /** "An object is used for at most 512 calls" */
    private static void the512thCallAnswersAsTheFirst() {
        LossHouse house = new LossHouse();
        house.open(0, 0, 1000);
        for (int i = 1; i <= 509; i++) {
            Check.same("pay", house.pay(0, 1), i);
        }
        Check.same("the 511th call", house.claim(0, 3), 491);
        Check.same("the 512th call", house.claim(0, 7), 1000);
    }
}
