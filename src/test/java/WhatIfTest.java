import java.util.function.Supplier;

/** Promises 25 to 30: would, without, reaches, keenest, kept, digest. */
final class WhatIfTest {
    public static void main(String[] args) {
        would();
        without();
        reaches();
        keenest();
        kept();
        digest();
        fullHouse();
        Check.end();
    }

    private static void would() {
        LossHouse house = Check.houseWith("layer a 200 xs 100 reinstate 1 at 50; layer b 50 xs 50 share 50;");
        house.open(0, 0, 150);
        house.pay(0, 100);
        house.open(0, 0, 500);
        house.open(0, 0, 500);
        long before = house.digest();
        // the reserve 150: 250 incurred, a bears 150, then 200 and 50; b 50 each, of which 25 are got
        Check.same("would(0, 150, 0)", house.would(0, 150, 0), 75 + 275 + 425);
        Check.same("would(0, 150, 1)", house.would(0, 150, 1), 175);
        Check.same("would(0, 150, 2)", house.would(0, 150, 2), 100);
        Check.same("would(0, 0, 0)", house.would(0, 0, 0), 75 + 275 + 275);
        Check.same("would(0, 0, 1)", house.would(0, 0, 1), 25);
        Check.same("would(1, 0, 0)", house.would(1, 0, 0), 75 + 275);
        Check.same("would(1, 0, 2)", house.would(1, 0, 2), 100);
        Check.same("would(2, 0, 2)", house.would(2, 0, 2), 100);
        Check.same("would(1, 120, 2)", house.would(1, 120, 2), 100);
        Check.same("would(0, 1000000, 1)", house.would(0, 1000000, 1), 225);
        Check.same("as it is", house.would(0, 50, 0), house.count(7));
        Check.same("nothing is changed", house.digest(), before);
        house.close(2, true);
        house.close(1, true);
        Check.same("would(2, 130, 2) of a closed claim", house.would(2, 130, 2), 40);
        Check.same("would(2, 130, 0) of a closed claim", house.would(2, 130, 0), 25 + 50 + 75);
        Check.noIndex("would(3, 0, 0)", house, () -> house.would(3, 0, 0));
        Check.noIndex("would(-1, 0, 0)", house, () -> house.would(-1, 0, 0));
        Check.noIndex("would(0, 0, 3)", house, () -> house.would(0, 0, 3));
        Check.noIndex("would(0, -1, -1)", house, () -> house.would(0, -1, -1));
        Check.noArgument("would(0, -1, 0)", house, () -> house.would(0, -1, 0));
        Check.noArgument("would(0, 1000001, 0)", house, () -> house.would(0, 1000001, 0));
        Check.noIndex("would(3, 1000001, 0)", house, () -> house.would(3, 1000001, 0));
    }

    private static void without() {
        LossHouse house = Check.houseWith("layer a 100 xs 0; layer b 300 xs 100 net of a; layer c 5 xs 100000;");
        house.open(0, 0, 500);
        house.open(0, 0, 80);
        // with all: a 100, b 300 of 400, left 100 and 0
        Check.same("count(7)", house.count(7), 100);
        // without a: b 300 of 500
        Check.same("without(0)", house.without(0), 200 + 80);
        Check.same("without(1)", house.without(1), 400);
        Check.same("without(2)", house.without(2), 100);
        Check.same("count(7)", house.count(7), 100);
        Check.noIndex("without(3)", house, () -> house.without(3));
        Check.noIndex("without(-1)", house, () -> house.without(-1));
        house.close(0, true);
        house.close(1, true);
        Check.same("without(0) of nothing", house.without(0), 0);
    }

    private static void reaches() {
        LossHouse house = Check.houseWith("layer a 100000 xs 20000 reinstate 0; layer b 50000 xs 60000 net of a;"
                + "layer c 5 xs 0 when amount < 1; layer d 1 xs 7 share 1 when amount > 1000000; layer e 9 xs 999999;");
        house.open(0, 0, 0);
        house.open(0, 0, 70000);
        house.open(0, 0, 1000);
        long before = house.digest();
        // 20000 is just not reached
        Check.same("reaches(0, 0)", house.reaches(0, 0), 25000);
        // a gets 100000 of 165000: 65000 are beyond 60000; but of 80000 and less a gets what is beyond 20000
        Check.same("reaches(0, 1)", house.reaches(0, 1), 165000);
        Check.same("reaches(0, 2)", house.reaches(0, 2), -1);
        Check.same("reaches(0, 3)", house.reaches(0, 3), -1);
        Check.same("reaches(0, 4)", house.reaches(0, 4), 1000000);
        Check.same("reaches(1, 0)", house.reaches(1, 0), 25000);
        // a has 50000 left for the claim 2
        Check.same("reaches(2, 1)", house.reaches(2, 1), 115000);
        Check.same("nothing is changed", house.digest(), before);
        house.pay(0, 19999);
        Check.same("reaches(0, 0) with what is paid", house.reaches(0, 0), 5000);
        house.pay(0, 2);
        Check.same("reaches(0, 0) by what is paid", house.reaches(0, 0), 0);
        house.close(0, true);
        Check.same("reaches(0, 3) of a closed claim", house.reaches(0, 3), 980000);
        house.setReserve(1, 120000);
        // without the claim 0, 1 has the whole of a: nothing is left of it for 2
        Check.same("reaches(2, 0)", house.reaches(2, 0), -1);
        house.nextYear();
        house.open(1, 0, 0);
        Check.same("reaches in another year", house.reaches(3, 0), 25000);
        Check.noIndex("reaches(4, 0)", house, () -> house.reaches(4, 0));
        Check.noIndex("reaches(-1, 0)", house, () -> house.reaches(-1, 0));
        Check.noIndex("reaches(0, 5)", house, () -> house.reaches(0, 5));
        Check.noIndex("reaches(0, -1)", house, () -> house.reaches(0, -1));
        Check.taught(house, "layer a 1 xs 0 share 1; layer b 1000 xs 0 after 12000;");
        Check.same("something borne of which nothing is got", house.reaches(3, 0), 5000);
        Check.same("reaches behind after", house.reaches(3, 1), -1);
        house.open(1, 0, 999000);
        Check.taught(house, "layer b 1000000 xs 0 after 12000;");
        Check.same("reaches behind after", house.reaches(3, 0), 15000);
        Check.same("reaches behind after", house.reaches(4, 0), 15000);
        Check.same("setReserve", house.setReserve(3, 12000), 0);
        Check.same("reaches behind after with another ahead", house.reaches(4, 0), 5000);
    }

    private static void keenest() {
        LossHouse house = Check.houseWith("layer a 100 xs 0; layer b 200 xs 0; layer c 200 xs 0; layer d 1 xs 900000;");
        Check.same("keenest() without claims", house.keenest(), -1);
        house.open(0, 0, 1000);
        Check.same("keenest()", house.keenest(), 1);
        house.setReserve(0, 1);
        Check.same("keenest() with nothing left without any", house.keenest(), -1);
        Check.taught(house, "layer a 100 xs 900000;");
        Check.same("keenest() of one that does nothing", house.keenest(), -1);
        house.setReserve(0, 1000);
        Check.taught(house, "layer z 1 xs 100000; layer a 300 xs 0; layer b 1000 xs 500 net of a;");
        // without a, b would bear 500: the same is left
        Check.same("keenest() beside one in whose place another one pays", house.keenest(), 2);
        Check.taught(house, "");
        Check.same("keenest() without layers", house.keenest(), -1);
    }

    private static void kept() {
        LossHouse house = Check.houseWith("layer a 100 xs 200;");
        Check.same("kept() without claims", house.kept(), 1.0);
        house.open(0, 0, 0);
        Check.same("kept() of nothing", house.kept(), 1.0);
        house.setReserve(0, 300);
        Check.same("kept()", house.kept(), 200.0 / 300.0);
        house.open(0, 0, 1);
        Check.same("kept()", house.kept(), 201.0 / 301.0);
        house.pay(0, 250);
        Check.same("kept() of what is incurred", house.kept(), 201.0 / 301.0);
        Check.taught(house, "layer a 10000 xs 0;");
        Check.same("kept() of nothing left", house.kept(), 0.0);
    }

    private static void digest() {
        Check.same("digest() of a new house", new LossHouse().digest(), digestOf(LossHouse::new, 0, 1000));
        for (int now = 1; now <= 9; now += 4) {
            int year = now;
            LossHouse house = houseInYear(now);
            Check.same("digest() in the year " + now, house.digest(), digestOf(() -> houseInYear(year), 2, 1700));
            Check.same("digest() again", house.digest(), house.digest());
        }
    }

    private static LossHouse houseInYear(int now) {
        LossHouse house = Check.houseWith("layer a 50 + year xs 10 reinstate 2 at 70;"
                + "layer b 30 xs 0 share 30 yearly 100 after 5 net of a;");
        house.setPremium(0, 1000, 60);
        house.setPremium(1, 1000, 70);
        house.open(0, 0, 150);
        house.pay(0, 60);
        house.nextYear();
        house.open(1, 3, 90);
        house.open(0, 2, 40);
        house.pay(0, 60);
        house.close(2, true);
        house.setTail(1700);
        house.feed(1, 2, 3, 4, 5);
        for (int year = 2; year <= now; year++) {
            house.nextYear();
            house.pay(1, 9);
        }
        return house;
    }

    /** As many layers, claims and years as there can be. */
    private static LossHouse full() {
        StringBuilder text = new StringBuilder();
        for (char name = 'a'; name <= 'h'; name++) {
            text.append("layer ").append(name).append(" 9000 + line xs 3000 * year share 90 yearly 30000 after 50 reinstate 4")
                    .append(" at 1 at 20 at 30 at 40").append(name > 'a' ? " net of a when amount > 1000;" : ";");
        }
        LossHouse house = Check.houseWith(text.toString());
        for (int i = 0; i < 40; i++) {
            house.open(i / 4, i % 6, 1000 * i);
            house.pay(i, 900);
            if (i % 4 == 3 && i < 39) {
                house.nextYear();
            }
        }
        return house;
    }

    private static void fullHouse() {
        LossHouse house = full();
        Check.same("count(3)", house.count(3), 9);
        Check.same("digest() of a full house", house.digest(), digestOf(WhatIfTest::full, 0, 1000));
        int left = 0;
        int incurred = 0;
        for (int i = 0; i < 40; i++) {
            left += house.claim(i, 7);
            incurred += house.claim(i, 4);
        }
        Check.same("kept() of a full house", house.kept(), (double) left / incurred);
        Check.same("count(7) of a full house", house.count(7), left);
        Check.same("reaches(39, 7)", house.reaches(39, 7), 30000);
        Check.same("would(39, 38100, 0)", house.would(39, 38100, 0), left);
        int most = left;
        int keenest = -1;
        for (int k = 0; k < 8; k++) {
            if (house.without(k) > most) {
                most = house.without(k);
                keenest = k;
            }
        }
        Check.same("keenest() of a full house", house.keenest(), keenest);
    }

    /**
     * The checksum as the document tells it, of what the other calls tell. Each layer and each claim is asked of an
     * object of its own, as one is used for at most 512 calls. The first years have the premium 1000.
     */
    private static long digestOf(Supplier<LossHouse> made, int years, int tail) {
        long d = 641;
        LossHouse house = made.get();
        for (int what = 0; what <= 8; what++) {
            d = d * 31 + house.count(what);
        }
        int now = house.count(3);
        for (int k = 0; k < house.count(0); k++) {
            d = layerOf(made.get(), k, now, d);
        }
        for (int i = 0; i < house.count(1); i++) {
            d = claimOf(made.get(), i, now, d);
        }
        for (int year = 0; year <= now; year++) {
            d = d * 31 + (year < years ? 1000 : 0);
            d = d * 31 + (year < years ? 60 + 10 * year : 0);
            for (int method = 0; method <= 2; method++) {
                d = d * 31 + house.reserve(method, year);
            }
        }
        for (int n = 0; n < 36; n++) {
            d = d * 31 + house.factor(n / 9, n % 9);
        }
        return d * 31 + tail;
    }

    private static long layerOf(LossHouse house, int k, int now, long start) {
        long d = start;
        for (int what = 0; what <= 7; what++) {
            d = d * 31 + house.layer(k, what);
        }
        for (int year = 0; year <= now; year++) {
            for (int what = 0; what <= 3; what++) {
                d = d * 31 + house.terms(k, year, what);
            }
            for (int what = 0; what <= 3; what++) {
                d = d * 31 + house.used(k, year, what);
            }
        }
        return d;
    }

    private static long claimOf(LossHouse house, int i, int now, long start) {
        long d = start;
        for (int what = 0; what <= 7; what++) {
            d = d * 31 + house.claim(i, what);
        }
        for (int age = 0; age <= now - house.claim(i, 0); age++) {
            d = d * 31 + house.at(i, age, true);
            d = d * 31 + house.at(i, age, false);
        }
        return d;
    }
}
