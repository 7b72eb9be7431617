import java.math.BigInteger;
import java.util.Arrays;

/** Promises 25 to 30, sentence by sentence. */
final class WhatIfEdgeTest {
    public static void main(String[] args) {
        wouldIsAskedOfReserves0To1000000();
        wouldIsAskedOfAClosedClaim();
        wouldTellsThreeThings();
        withoutALayerItBearsNothing();
        withoutALayerNobodyGetsAnything();
        reachesIsAMultipleOf5000();
        reachesGoesFrom0To1000000();
        reachesTheLeastOfSeveral();
        reachesNone();
        reachesWhatIsBorneNotWhatIsGot();
        reachesWithAllElseAsItIs();
        reachesOfAClosedClaim();
        nothingIsChanged();
        theKeenestOfSeveralHasTheSmallestNumber();
        theKeenestLeavesMore();
        thereIsNoKeenest();
        keptIs1OfNothing();
        keptIsAQuotient();
        theDigestOfANewHouse();
        theDigestFollowsItsOrder();
        theDigestWrapsAround();
        Check.end();
    }

    private static LossHouse with(String text, int... reserves) {
        LossHouse house = Check.houseWith(text);
        for (int i = 0; i < reserves.length; i++) {
            Check.same("open", house.open(0, 0, reserves[i]), i);
        }
        return house;
    }

    // ---- would

    /** "if reserve is not 0 to 1000000" */
    private static void wouldIsAskedOfReserves0To1000000() {
        LossHouse house = with("layer a 2000000 xs 0 share 50;", 7, 9);
        house.pay(0, 1000000);
        Check.same("would(0, 0, 0)", house.would(0, 0, 0), 500000 + 5);
        Check.same("would(0, 1, 0)", house.would(0, 1, 0), 500001 + 5);
        Check.same("would(0, 1000000, 0)", house.would(0, 1000000, 0), 1000000 + 5);
        Check.noArgument("would(0, -1, 0)", house, () -> house.would(0, -1, 0));
        Check.noArgument("would(0, 1000001, 0)", house, () -> house.would(0, 1000001, 0));
        Check.noIndex("would(0, 0, 3)", house, () -> house.would(0, 0, 3));
        Check.noIndex("would(0, 0, -1)", house, () -> house.would(0, 0, -1));
        Check.noIndex("would(2, 0, 0)", house, () -> house.would(2, 0, 0));
        Check.noIndex("would(-1, 0, 0)", house, () -> house.would(-1, 0, 0));
    }

    /** "(also a closed one; nothing is changed)" */
    private static void wouldIsAskedOfAClosedClaim() {
        LossHouse house = with("layer a 100 xs 50;", 80, 40);
        house.pay(0, 10);
        house.close(0, true);
        Check.same("as it is", house.count(7), 10 + 40);
        Check.same("would(0, 60, 0)", house.would(0, 60, 0), 50 + 40);
        Check.same("would(0, 60, 1)", house.would(0, 60, 1), 20);
        Check.same("would(0, 1000, 1)", house.would(0, 1000, 1), 100);
        Check.same("its reserve", house.claim(0, 3), 0);
        Check.same("it is closed", house.claim(0, 5), 0);
        Check.same("as it is", house.count(7), 10 + 40);
    }

    /** "0 all that is left .., 1 what the claim gets from all layers, .., 2 all that reinstatements are charged" */
    private static void wouldTellsThreeThings() {
        LossHouse house = with("layer a 100 xs 0 reinstate 1 at 50; layer b 30 xs 10 share 50 net of a;", 60, 90, 100);
        house.nextYear();
        house.open(1, 0, 40);
        // the claim 1 as it is: a bears 90, then 50 of the claim 2; b 0 and 30 of the rest
        Check.same("would(1, 90, 0)", house.would(1, 90, 0), house.count(7));
        Check.same("would(1, 90, 2)", house.would(1, 90, 2), house.count(8));
        Check.same("would(1, 90, 1)", house.would(1, 90, 1), house.gets(0, 1, false) + house.gets(1, 1, false));
        // a bears 60, 100 and 40, b 30 of the claims 1 and 2 each; charged are 50, and 20 in the year 1
        Check.same("would(1, 250, 1)", house.would(1, 250, 1), 100 + 15);
        Check.same("would(1, 250, 0)", house.would(1, 250, 0), 135 + 45);
        Check.same("would(1, 250, 2)", house.would(1, 250, 2), 50 + 20);
        Check.same("would(2, 0, 0)", house.would(2, 0, 0), 0);
        Check.same("would(3, 0, 2)", house.would(3, 0, 2), 50);
        Check.same("would(3, 1000, 2)", house.would(3, 1000, 2), 50 + 50);
    }

    // ---- without

    /** "if this layer bore nothing": what another layer is net of is 0 then. */
    private static void withoutALayerItBearsNothing() {
        LossHouse house = with("layer a 100 xs 0; layer b 300 xs 100 net of a; layer c 50 xs 0 net of a, b;", 500, 80);
        // a 100 and 80, b 300 of 400, c 50 of 100 and 0
        Check.same("as it is", house.count(7), 50);
        Check.same("without(0)", house.without(0), 150 + 30);
        Check.same("without(1)", house.without(1), 350);
        Check.same("without(2)", house.without(2), 100);
        Check.noIndex("without(3)", house, () -> house.without(3));
        Check.noIndex("without(-1)", house, () -> house.without(-1));
    }

    /** "and nobody got anything from it": neither a claim that takes its bound, nor one behind it */
    private static void withoutALayerNobodyGetsAnything() {
        LossHouse house = with("layer a 100 xs 0 yearly 120; layer b 10 xs 0;", 100, 100, 100);
        Check.same("as it is", house.count(7), 0 + 70 + 90);
        Check.same("without(0)", house.without(0), 270);
        Check.same("without(1)", house.without(1), 180);
        Check.same("as it is", house.count(7), 160);
        LossHouse none = Check.houseWith("layer a 1 xs 0;");
        Check.same("without(0) without claims", none.without(0), 0);
    }

    // ---- reaches

    /** "the least reserve of a claim, of the multiples of 5000" */
    private static void reachesIsAMultipleOf5000() {
        int[] retentions = {0, 1, 4998, 4999, 5000, 5001, 9999, 10000, 12345, 994999, 995000, 999999};
        int[] due = {5000, 5000, 5000, 5000, 10000, 10000, 10000, 15000, 15000, 995000, 1000000, 1000000};
        for (int i = 0; i < retentions.length; i++) {
            LossHouse house = with("layer a 1 xs " + retentions[i] + ";", 3);
            Check.same("reaches beyond " + retentions[i], house.reaches(0, 0), due[i]);
        }
    }

    /** "from 0 to 1000000"; "-1 if there is none" */
    private static void reachesGoesFrom0To1000000() {
        Check.same("just reached", with("layer a 1 xs 999999;", 0).reaches(0, 0), 1000000);
        Check.same("just not reached", with("layer a 1 xs 1000000;", 0).reaches(0, 0), -1);
        LossHouse house = with("layer a 1 xs 1000000;", 0);
        house.pay(0, 1);
        Check.same("reached with 1 paid", house.reaches(0, 0), 1000000);
        house.pay(0, 999999);
        Check.same("reached with 1000000 paid", house.reaches(0, 0), 5000);
        Check.taught(house, "layer a 1 xs 999999;");
        Check.same("reached by what is paid", house.reaches(0, 0), 0);
        Check.taught(house, "layer a 1 xs 2000000;");
        Check.same("never reached", house.reaches(0, 0), -1);
        Check.taught(house, "layer a 1 xs 1999999;");
        Check.same("reached with 2000000", house.reaches(0, 0), 1000000);
    }

    private static void reachesTheLeastOfSeveral() {
        Check.same("from 5000 on", with("layer a 1 xs 0;", 900000).reaches(0, 0), 5000);
        Check.same("only 15000", with("layer a 1 xs 0 when amount = 15000;", 0).reaches(0, 0), 15000);
        Check.same("15000 or 20000", with("layer a 1 xs 0 when amount = 20000 or amount = 15000;", 0).reaches(0, 0), 15000);
        Check.same("below 5001", with("layer a 1 xs 0 when amount < 5001;", 70000).reaches(0, 0), 5000);
        Check.same("at the limit of a reserve", with("layer a 1 xs 0 when amount > 999999;", 0).reaches(0, 0), 1000000);
    }

    private static void reachesNone() {
        Check.same("between multiples", with("layer a 1 xs 0 when amount > 5000 and amount < 10000;", 7000).reaches(0, 0), -1);
        Check.same("with the amount 0", with("layer a 1 xs 0 when amount = 0;", 0).reaches(0, 0), -1);
        Check.same("with the limit 0", with("layer a 0 xs 0;", 0).reaches(0, 0), -1);
        Check.same("with the bound 0", with("layer a 1 xs 0 yearly 0;", 0).reaches(0, 0), -1);
        Check.same("with a bound that is taken", with("layer a 9 xs 0 yearly 9;", 9, 0).reaches(1, 0), -1);
        Check.same("with one of which 1 is left", with("layer a 9 xs 0 yearly 9;", 8, 0).reaches(1, 0), 5000);
        Check.same("behind after", with("layer a 9000 xs 0 after 9000;", 0).reaches(0, 0), -1);
        Check.same("just behind after", with("layer a 9001 xs 0 after 9000;", 0).reaches(0, 0), 10000);
        Check.same("with all taken off", with("layer b 2000000 xs 0; layer a 1 xs 0 net of b;", 0).reaches(0, 1), -1);
    }

    /** "with which a layer would bear something of it" */
    private static void reachesWhatIsBorneNotWhatIsGot() {
        LossHouse house = with("layer a 1 xs 0 share 1; layer b 99 xs 5000 share 1;", 5001);
        Check.same("gets nothing", house.gets(0, 0, false), 0);
        Check.same("reaches all the same", house.reaches(0, 0), 5000);
        Check.same("reaches all the same", house.reaches(0, 1), 10000);
    }

    /** "all else as it is": the claims ahead of it in the year, and the layers ahead. */
    private static void reachesWithAllElseAsItIs() {
        LossHouse house = with("layer a 20000 xs 0 yearly 30000; layer b 5000 xs 10000 net of a;", 20000, 0, 20000);
        // the claim 1 gets 10000 of a at most: b is reached with more than 20000
        Check.same("reaches(0, 1)", house.reaches(0, 1), 35000);
        Check.same("reaches(1, 0)", house.reaches(1, 0), 5000);
        Check.same("reaches(1, 1)", house.reaches(1, 1), 25000);
        Check.same("reaches(2, 0)", house.reaches(2, 0), 5000);
        house.setReserve(1, 9999);
        Check.same("reaches(2, 0)", house.reaches(2, 0), 5000);
        house.setReserve(1, 10000);
        Check.same("reaches(2, 0)", house.reaches(2, 0), -1);
        Check.same("reaches(2, 1)", house.reaches(2, 1), 15000);
        house.nextYear();
        house.open(1, 0, 0);
        Check.same("reaches in another year", house.reaches(3, 0), 5000);
        Check.noIndex("reaches(4, 0)", house, () -> house.reaches(4, 0));
        Check.noIndex("reaches(0, 2)", house, () -> house.reaches(0, 2));
    }

    /** "also of a closed claim" */
    private static void reachesOfAClosedClaim() {
        LossHouse house = with("layer a 1 xs 9000;", 20000);
        house.pay(0, 3999);
        house.close(0, true);
        Check.same("reaches", house.reaches(0, 0), 10000);
        house.close(0, false);
        house.pay(0, 1);
        Check.same("just not reached with 5000", house.reaches(0, 0), 10000);
        house.pay(0, 1);
        house.close(0, true);
        Check.same("reached with 5000", house.reaches(0, 0), 5000);
        Check.same("its reserve", house.claim(0, 3), 0);
    }

    /** "nothing is changed", by would, without, reaches, keenest, kept and digest */
    private static void nothingIsChanged() {
        LossHouse house = with("layer a 100 xs 10 yearly 150 reinstate 1 at 50; layer b 1000 xs 0 share 30 net of a;", 90, 200, 60);
        house.pay(1, 30);
        house.nextYear();
        house.close(2, true);
        long before = house.digest();
        int[] got = {house.gets(0, 1, true), house.gets(1, 1, true), house.claim(1, 6), house.triangle(3, 0, 0)};
        for (int what = 0; what <= 2; what++) {
            house.would(0, 1000000, what);
            house.would(2, 500, what);
        }
        house.without(0);
        house.without(1);
        house.reaches(1, 0);
        house.reaches(2, 1);
        house.keenest();
        house.kept();
        Check.same("the digest", house.digest(), before);
        int[] then = {house.gets(0, 1, true), house.gets(1, 1, true), house.claim(1, 6), house.triangle(3, 0, 0)};
        for (int i = 0; i < got.length; i++) {
            Check.same("answer " + i, then[i], got[i]);
        }
    }

    // ---- keenest

    /** "of several the one with the smallest number" */
    private static void theKeenestOfSeveralHasTheSmallestNumber() {
        keenest(0, 7, 7, 7);
        keenest(1, 6, 7, 7);
        keenest(2, 5, 6, 7);
        keenest(0, 7, 6, 7);
        keenest(1, 0, 1, 1);
        keenest(2, 0, 0, 1);
    }

    private static void keenest(int due, int... limits) {
        StringBuilder text = new StringBuilder();
        for (int k = 0; k < limits.length; k++) {
            text.append("layer ").append((char) ('a' + k)).append(' ').append(limits[k]).append(" xs 0;");
        }
        Check.same("keenest of " + text, with(text.toString(), 100).keenest(), due);
    }

    /** "Returns of the layers without which more would be left" */
    private static void theKeenestLeavesMore() {
        // without a, b pays the same: nothing more is left
        Check.same("beside another one", with("layer a 50 xs 0; layer b 50 xs 0 net of a;", 50).keenest(), -1);
        Check.same("with 1 more", with("layer a 50 xs 0; layer b 49 xs 0 net of a;", 50).keenest(), 0);
        // without a, b and c bear 10 more each: less is left
        LossHouse house = with("layer a 10 xs 0; layer b 100 xs 50 net of a; layer c 100 xs 50 net of a;", 100);
        Check.same("as it is", house.count(7), 10);
        Check.same("without(0)", house.without(0), 0);
        Check.same("keenest", house.keenest(), 1);
        Check.same("all is given twice", with("layer a 100 xs 0; layer b 100 xs 0;", 100).keenest(), -1);
    }

    /** "-1 if there is no such layer" */
    private static void thereIsNoKeenest() {
        Check.same("without layers and claims", new LossHouse().keenest(), -1);
        Check.same("without layers", with("", 100).keenest(), -1);
        Check.same("without claims", with("layer a 100 xs 0;").keenest(), -1);
        Check.same("with a claim of 0", with("layer a 100 xs 0;", 0).keenest(), -1);
        Check.same("just not reached", with("layer a 100 xs 100;", 100).keenest(), -1);
        Check.same("just reached", with("layer a 100 xs 99;", 100).keenest(), 0);
        Check.same("with a share that cuts all", with("layer a 99 xs 0 share 1;", 100).keenest(), -1);
        Check.same("with a share that leaves 1", with("layer a 100 xs 0 share 1;", 100).keenest(), 0);
    }

    // ---- kept

    /** "1 if this is 0" */
    private static void keptIs1OfNothing() {
        Check.same("of a new house", new LossHouse().kept(), 1.0);
        Check.same("of claims of 0", with("layer a 100 xs 0;", 0, 0).kept(), 1.0);
        LossHouse house = with("layer a 100 xs 0;", 5);
        Check.same("all is given", house.kept(), 0.0);
        house.close(0, true);
        Check.same("closed with nothing paid", house.kept(), 1.0);
        house.close(0, false);
        house.pay(0, 1);
        Check.same("all that is paid is given", house.kept(), 0.0);
    }

    /** "all that is left of what is incurred, divided by all that is incurred" */
    private static void keptIsAQuotient() {
        Check.same("a third", with("layer a 100 xs 50;", 150).kept(), 50.0 / 150.0);
        Check.same("of two", with("layer a 100 xs 50;", 150, 7).kept(), 57.0 / 157.0);
        Check.same("all", with("", 150, 7).kept(), 1.0);
        LossHouse house = with("layer a 1000000 xs 3;", 999999, 999998);
        house.pay(0, 1000000);
        Check.same("of what is incurred, not paid", house.kept(), 6.0 / 1999998.0);
    }

    // ---- digest

    /** "A number d starts with 641; for each of the following numbers x, d becomes d * 31 + x" */
    private static void theDigestOfANewHouse() {
        // what count() tells is 0; a year without a premium, expected, and reserves; 36 factors; the tail
        long d = 641;
        for (int i = 0; i < 9 + 5; i++) {
            d = d * 31;
        }
        for (int i = 0; i < 36 + 1; i++) {
            d = d * 31 + 1000;
        }
        Check.same("digest() of a new house", new LossHouse().digest(), d);
        LossHouse house = new LossHouse();
        house.setTail(1001);
        Check.same("digest() with another tail", house.digest(), d + 1);
        house.setTail(1000);
        house.setPremium(0, 1, 0);
        long premium = 1;
        for (int i = 0; i < 4 + 37; i++) {
            premium *= 31;
        }
        Check.same("digest() with a premium", house.digest(), d + premium);
    }

    /** "(all in their order)": told anew from what the other calls tell. */
    private static void theDigestFollowsItsOrder() {
        for (int now = 0; now <= 3; now++) {
            LossHouse house = Check.houseWith("layer a 50 + year xs 10 reinstate 2 at 70 at 3;"
                    + "layer b 30 xs 0 share 30 yearly 100 after 5 net of a;");
            for (int year = 0; year <= now; year++) {
                house.open(year, year, 150 + year);
                house.pay(year, 60);
                house.setPremium(year, 1000 + year, 60 + year);
                if (year < now) {
                    house.nextYear();
                    house.pay(year, 7 - year);
                }
            }
            house.open(0, 5, 44);
            house.setTail(1700);
            house.close(0, now == 2);
            house.feed(1, 2, 3, 4, 5);
            Check.same("digest() in the year " + now, house.digest(), digestOf(house, now));
        }
    }

    private static long digestOf(LossHouse house, int now) {
        long d = 641;
        for (int what = 0; what <= 8; what++) {
            d = d * 31 + house.count(what);
        }
        for (int k = 0; k < 2; k++) {
            for (int what = 0; what <= 7; what++) {
                d = d * 31 + house.layer(k, what);
            }
            for (int n = 0; n < 8 * (now + 1); n++) {
                d = d * 31 + (n % 8 < 4 ? house.terms(k, n / 8, n % 4) : house.used(k, n / 8, n % 4));
            }
        }
        for (int i = 0; i < now + 2; i++) {
            for (int what = 0; what <= 7; what++) {
                d = d * 31 + house.claim(i, what);
            }
            for (int n = 0; n < 2 * (now - house.claim(i, 0) + 1); n++) {
                d = d * 31 + house.at(i, n / 2, n % 2 == 0);
            }
        }
        for (int year = 0; year <= now; year++) {
            d = (d * 31 + 1000 + year) * 31 + 60 + year;
            for (int method = 0; method <= 2; method++) {
                d = d * 31 + house.reserve(method, year);
            }
        }
        for (int n = 0; n < 36; n++) {
            d = d * 31 + house.factor(n / 9, n % 9);
        }
        return d * 31 + 1700;
    }

    /** "which wraps around as a 64-bit integer": told anew without wrapping, and cut to 64 bits at the end */
    private static void theDigestWrapsAround() {
        BigInteger d = BigInteger.valueOf(641);
        BigInteger by = BigInteger.valueOf(31);
        int[] told = new int[51];
        Arrays.fill(told, 14, 51, 1000);
        for (int x : told) {
            d = d.multiply(by).add(BigInteger.valueOf(x));
        }
        Check.same("it is beyond 64 bits", d.bitLength() > 64 ? 1 : 0, 1);
        Check.same("digest() of a new house", new LossHouse().digest(), d.longValue());
    }
}
