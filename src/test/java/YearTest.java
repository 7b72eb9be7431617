/** Promises 17 to 24: nextYear, setPremium, setTail, triangle, factor, ultimate, reserve, worst. */
final class YearTest {
    public static void main(String[] args) {
        going();
        premiums();
        tails();
        triangles();
        factors();
        ultimates();
        held();
        allAges();
        reserves();
        worsts();
        Check.end();
    }

    private static void going() {
        LossHouse house = new LossHouse();
        for (int year = 1; year <= 9; year++) {
            Check.same("nextYear()", house.nextYear(), year);
            Check.same("count(3)", house.count(3), year);
        }
        Check.noState("nextYear() behind the year 9", house, () -> house.nextYear());
        Check.same("count(3)", house.count(3), 9);
        Check.same("open in the year 9", house.open(9, 0, 1), 0);
    }

    private static void premiums() {
        LossHouse house = new LossHouse();
        Check.same("setPremium", house.setPremium(9, 10000000, 200), 0);
        Check.same("setPremium", house.setPremium(9, 5, 0), 10000000);
        Check.same("setPremium of another", house.setPremium(0, 7, 1), 0);
        Check.same("setPremium", house.setPremium(9, 0, 0), 5);
        Check.noIndex("setPremium(10)", house, () -> house.setPremium(10, 0, 0));
        Check.noIndex("setPremium(-1)", house, () -> house.setPremium(-1, -1, 0));
        Check.noArgument("setPremium(0, -1)", house, () -> house.setPremium(0, -1, 0));
        Check.noArgument("setPremium(0, 10000001)", house, () -> house.setPremium(0, 10000001, 0));
        Check.noArgument("setPremium(0, 0, -1)", house, () -> house.setPremium(0, 0, -1));
        Check.noArgument("setPremium(0, 0, 201)", house, () -> house.setPremium(0, 0, 201));
        Check.noIndex("setPremium(10, -1)", house, () -> house.setPremium(10, -1, 201));
    }

    private static void tails() {
        LossHouse house = new LossHouse();
        Check.same("setTail", house.setTail(3000), 1000);
        Check.same("setTail", house.setTail(1000), 3000);
        Check.same("setTail", house.setTail(1234), 1000);
        Check.noArgument("setTail(999)", house, () -> house.setTail(999));
        Check.noArgument("setTail(3001)", house, () -> house.setTail(3001));
        Check.noArgument("setTail(-1)", house, () -> house.setTail(-1));
        Check.same("setTail", house.setTail(1000), 1234);
    }

    /** Years 0 to 2 are told: what is paid and incurred of year 0 at the ages 0 to 2, and so on. */
    private static LossHouse grown() {
        LossHouse house = Check.houseWith("layer a 200 xs 100 yearly 300;");
        house.open(0, 0, 150);
        house.open(0, 0, 400);
        house.pay(1, 120);
        house.nextYear();
        house.pay(0, 150);
        house.pay(1, 80);
        house.open(1, 0, 1000);
        house.pay(2, 10);
        house.open(0, 0, 250);
        house.nextYear();
        house.setReserve(2, 490);
        house.pay(2, 90);
        house.open(2, 0, 60);
        return house;
    }

    private static void triangles() {
        LossHouse house = grown();
        // year 0: claims of 150, 400, then 150, 400, 250; of 0, 120 paid, then 150, 200, 0
        int[][][] due = {{{120, 350, 350}, {10, 100}, {0}}, {{550, 800, 800}, {1000, 500}, {60}},
            {{100, 200, 200}, {10, 100}, {0}}, {{300, 500, 500}, {800, 300}, {60}}};
        for (int kind = 0; kind < 4; kind++) {
            for (int year = 0; year < 3; year++) {
                for (int age = 0; age < 3 - year; age++) {
                    Check.same("triangle(" + kind + ", " + year + ", " + age + ")", house.triangle(kind, year, age),
                            due[kind][year][age]);
                }
            }
        }
        Check.noIndex("triangle(4, 0, 0)", house, () -> house.triangle(4, 0, 0));
        Check.noIndex("triangle(-1, 0, 0)", house, () -> house.triangle(-1, 0, 0));
        Check.noIndex("triangle(0, 3, 0)", house, () -> house.triangle(0, 3, 0));
        Check.noIndex("triangle(0, -1, 0)", house, () -> house.triangle(0, -1, 0));
        Check.noIndex("triangle(0, 0, 3)", house, () -> house.triangle(0, 0, 3));
        Check.noIndex("triangle(0, 2, 1)", house, () -> house.triangle(0, 2, 1));
        Check.noIndex("triangle(0, 0, -1)", house, () -> house.triangle(0, 0, -1));
        // what was then is looked at with the layers of now
        Check.taught(house, "layer a 100000 xs 0 share 50 when amount > 140;");
        Check.same("other layers", house.triangle(3, 0, 0), 275);
        Check.same("other layers", house.triangle(2, 0, 0), 120);
        Check.same("other layers", house.triangle(2, 0, 1), 175);
    }

    private static void factors() {
        LossHouse house = grown();
        // of the years 0 and 1 from the age 0 to 1, of the year 0 from 1 to 2
        int[][] due = {{450 * 1000 / 130, 1000}, {1300 * 1000 / 1550, 1000}, {300 * 1000 / 110, 1000}, {800 * 1000 / 1100, 1000}};
        for (int kind = 0; kind < 4; kind++) {
            for (int age = 0; age <= 8; age++) {
                Check.same("factor(" + kind + ", " + age + ")", house.factor(kind, age), age < 2 ? due[kind][age] : 1000);
            }
        }
        Check.noIndex("factor(4, 0)", house, () -> house.factor(4, 0));
        Check.noIndex("factor(-1, 0)", house, () -> house.factor(-1, 0));
        Check.noIndex("factor(0, 9)", house, () -> house.factor(0, 9));
        Check.noIndex("factor(0, -1)", house, () -> house.factor(0, -1));
        LossHouse great = new LossHouse();
        great.open(0, 0, 1);
        great.nextYear();
        great.setReserve(0, 1000000);
        Check.same("the greatest factor", great.factor(1, 0), 1000000);
        great.nextYear();
        great.close(0, true);
        Check.same("a factor to nothing", great.factor(1, 1), 0);
        great.nextYear();
        Check.same("a factor of nothing", great.factor(1, 2), 1000);
        LossHouse cut = new LossHouse();
        cut.open(0, 0, 1);
        cut.nextYear();
        cut.setReserve(0, 999);
        Check.same("a factor below the greatest", cut.factor(1, 0), 999000);
        cut.setReserve(0, 1001);
        Check.same("a factor beyond the greatest", cut.factor(1, 0), 1000000);
    }

    private static void ultimates() {
        LossHouse house = new LossHouse();
        // paid 100, then 150, then 165: factors 1500 and 1100
        house.open(0, 0, 300);
        house.pay(0, 100);
        house.nextYear();
        house.pay(0, 50);
        house.nextYear();
        house.pay(0, 15);
        house.open(2, 0, 0);
        house.pay(1, 7);
        house.setTail(1010);
        // 7 * 1.5 = 10, * 1.1 = 11, * 1.01 = 11
        Check.same("ultimate(0, 2)", house.ultimate(0, 2, false), 11);
        Check.same("ultimate(0, 0)", house.ultimate(0, 0, false), 166);
        Check.same("ultimate(0, 1)", house.ultimate(0, 1, false), 0);
        // 1000 * 1.5 = 1500, * 1.1 = 1650, * 1.01 = 1666
        Check.same("growth(0, 2)", house.ultimate(0, 2, true), 1666);
        Check.same("growth(0, 1)", house.ultimate(0, 1, true), 1111);
        Check.same("growth(0, 0)", house.ultimate(0, 0, true), 1010);
        Check.same("growth(1, 2)", house.ultimate(1, 2, true), 1010);
        Check.same("ultimate(1, 0)", house.ultimate(1, 0, false), 303);
        Check.noIndex("ultimate(4, 0)", house, () -> house.ultimate(4, 0, false));
        Check.noIndex("ultimate(-1, 0)", house, () -> house.ultimate(-1, 0, true));
        Check.noIndex("ultimate(0, 3)", house, () -> house.ultimate(0, 3, false));
        Check.noIndex("ultimate(0, -1)", house, () -> house.ultimate(0, -1, true));
        Check.taught(house, "layer a 10 xs 0 when year = 0;");
        Check.same("ultimate(2, 0)", house.ultimate(2, 0, false), 156);
        Check.same("ultimate(3, 0)", house.ultimate(3, 0, false), 292);
        // kind 2 is 90, 140, 155: 1000 * 1.555 = 1555, * 1.107 = 1721, * 1.01 = 1738
        Check.same("growth(2, 2)", house.ultimate(2, 2, true), 1738);
    }

    private static void held() {
        LossHouse house = new LossHouse();
        house.open(0, 0, 1);
        house.nextYear();
        house.setReserve(0, 1000000);
        house.nextYear();
        house.open(2, 0, 1000000);
        // held at 2000000000, and then at the tail again
        Check.same("a held ultimate", house.ultimate(1, 2, false), 1000000000);
        Check.same("growth", house.ultimate(1, 2, true), 1000000);
        house.pay(1, 1000000);
        house.setReserve(1, 1000001 - 1);
        Check.same("at the edge", house.ultimate(1, 2, false), 2000000000);
        house.open(2, 0, 1000);
        Check.same("beyond the edge", house.ultimate(1, 2, false), 2000000000);
        house.setTail(1500);
        Check.same("with a tail", house.ultimate(1, 2, false), 2000000000);
        house.nextYear();
        house.close(0, true);
        // the factor of the age 2 is 0: what was held comes to nothing
        Check.same("a factor 0 behind it", house.ultimate(1, 3, true), 0);
        house.close(0, false);
        house.setReserve(0, 500000);
        // 1000 * 1, * 0.5, by the year 0 alone, * 1.5, the tail
        Check.same("a factor below 1000", house.ultimate(1, 2, true), 750);
    }

    /** The year 0 comes to the age 9, with one tenth more paid at each age. */
    private static void allAges() {
        LossHouse house = new LossHouse();
        house.open(0, 0, 1000);
        house.pay(0, 100);
        for (int year = 1; year <= 9; year++) {
            Check.same("nextYear()", house.nextYear(), year);
            house.pay(0, 10);
        }
        int growth = 1000;
        for (int age = 0; age <= 8; age++) {
            int factor = (110 + 10 * age) * 1000 / (100 + 10 * age);
            Check.same("factor(0, " + age + ")", house.factor(0, age), factor);
            growth = growth * factor / 1000;
        }
        Check.same("growth of the year that is now", house.ultimate(0, 9, true), growth);
        Check.same("growth of the year 1", house.ultimate(0, 1, true), 1055);
        Check.same("growth of the year 0", house.ultimate(0, 0, true), 1000);
        for (int age = 0; age <= 9; age++) {
            Check.same("triangle(0, 0, " + age + ")", house.triangle(0, 0, age), 100 + 10 * age);
        }
    }

    private static void reserves() {
        LossHouse house = new LossHouse();
        house.open(0, 0, 300);
        house.pay(0, 100);
        house.nextYear();
        house.pay(0, 50);
        house.setReserve(0, 30);
        house.open(1, 0, 500);
        house.pay(1, 200);
        // paid 100, 150; incurred 300, 180: factors 1500 and 600
        Check.same("reserve(0, 0)", house.reserve(0, 0), 0);
        Check.same("reserve(1, 0)", house.reserve(1, 0), 30);
        Check.same("reserve(0, 1)", house.reserve(0, 1), 100);
        Check.same("reserve(1, 1)", house.reserve(1, 1), 100);
        house.setReserve(1, 0);
        Check.same("reserve(1, 1) below 0", house.reserve(1, 1), -80);
        Check.same("reserve(2, 1) without a premium", house.reserve(2, 1), 0);
        house.setPremium(1, 1099, 75);
        // 824, * (1000 - 666) / 1000
        Check.same("reserve(2, 1)", house.reserve(2, 1), 275);
        house.setPremium(0, 10000000, 200);
        Check.same("reserve(2, 0) with the growth 1000", house.reserve(2, 0), 0);
        house.setTail(3000);
        Check.same("reserve(2, 0) with a tail", house.reserve(2, 0), 20000000 / 1000 * (1000 - 333));
        Check.same("reserve(0, 0) with a tail", house.reserve(0, 0), 300);
        Check.noIndex("reserve(3, 0)", house, () -> house.reserve(3, 0));
        Check.noIndex("reserve(-1, 0)", house, () -> house.reserve(-1, 0));
        Check.noIndex("reserve(0, 2)", house, () -> house.reserve(0, 2));
        Check.noIndex("reserve(0, -1)", house, () -> house.reserve(0, -1));
        // layers leave the reserves as they are
        Check.taught(house, "layer a 100000 xs 0;");
        Check.same("reserve(0, 1) with a layer", house.reserve(0, 1), 700);
        Check.same("reserve(1, 1) with a layer", house.reserve(1, 1), 160);
    }

    private static void worsts() {
        LossHouse house = new LossHouse();
        Check.same("worst of nothing", house.worst(0), 0);
        house.nextYear();
        house.nextYear();
        Check.same("worst of even ones", house.worst(1), 0);
        house.open(1, 0, 50);
        Check.same("worst(1)", house.worst(1), 1);
        Check.same("worst(0)", house.worst(0), 0);
        house.open(2, 0, 50);
        Check.same("worst(1) of even ones", house.worst(1), 1);
        house.open(2, 0, 1);
        Check.same("worst(1)", house.worst(1), 2);
        house.setTail(2000);
        house.setPremium(1, 100, 100);
        house.setPremium(2, 101, 100);
        house.setPremium(9, 9999999, 100);
        Check.same("worst(2) of cut ones", house.worst(2), 1);
        house.setPremium(2, 102, 100);
        Check.same("worst(2)", house.worst(2), 2);
        LossHouse less = new LossHouse();
        less.open(0, 0, 500);
        less.pay(0, 500);
        less.nextYear();
        less.open(0, 0, 500);
        Check.same("worst(1)", less.worst(1), 0);
        Check.noIndex("worst(3)", house, () -> house.worst(3));
        Check.noIndex("worst(-1)", house, () -> house.worst(-1));
        belowZero();
    }

    /** The reserves of the later years are below 0. */
    private static void belowZero() {
        LossHouse house = new LossHouse();
        house.open(0, 0, 1000);
        house.nextYear();
        house.setReserve(0, 300);
        house.open(1, 0, 100);
        house.pay(1, 100);
        house.nextYear();
        house.close(0, true);
        house.pay(1, 100);
        house.close(1, true);
        house.open(2, 0, 10);
        house.pay(2, 10);
        // the years 0 and 1 have paid all, the year 2 comes to less than what is paid
        Check.same("reserve(1, 0)", house.reserve(1, 0), 0);
        Check.same("reserve(1, 1)", house.reserve(1, 1), -200);
        Check.same("reserve(1, 2)", house.reserve(1, 2), -10);
        Check.same("worst(1)", house.worst(1), 0);
    }
}
