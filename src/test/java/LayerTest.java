/** Promises 6 to 8, and what layers pay (promises 13, 15, 16): count, layer, terms, and the reckoning behind them. */
final class LayerTest {
    public static void main(String[] args) {
        counting();
        layers();
        terms();
        bounds();
        arithmetic();
        losses();
        tests();
        years();
        nets();
        shares();
        charges();
        Check.end();
    }

    private static void counting() {
        LossHouse house = Check.houseWith("layer a 100 xs 50 reinstate 1 at 50; layer b 1 xs 9000;");
        house.open(0, 0, 200);
        house.open(0, 1, 30);
        house.open(0, 2, 80);
        house.pay(0, 60);
        house.pay(1, 10);
        house.close(1, true);
        house.nextYear();
        house.feed(0, 0, 0, 0, 0);
        // incurred 200, 10, 80: the layer bears 100, 0, 30
        int[] due = {2, 3, 2, 1, 20, 70, 220, 160, 50};
        for (int what = 0; what <= 8; what++) {
            Check.same("count(" + what + ")", house.count(what), due[what]);
        }
        Check.noIndex("count(9)", house, () -> house.count(9));
        Check.noIndex("count(-1)", house, () -> house.count(-1));
    }

    private static void layers() {
        LossHouse house = Check.houseWith("layer a 1 xs 1; layer b 1 xs 1 share 40 yearly 0 reinstate 3 at 0 at 7;"
                + "layer c 1 xs 1 reinstate 0 net of b; layer d 1 xs 1 reinstate 4 at 1 at 2 at 3 at 4 net of c, a;");
        int[][] due = {{100, -1, 0, 0, -1, -1, -1, -1}, {40, 3, 1, 0, 0, 7, -1, -1}, {100, 0, 0, 2, -1, -1, -1, -1},
            {100, 4, 0, 5, 1, 2, 3, 4}};
        for (int k = 0; k < 4; k++) {
            for (int what = 0; what <= 7; what++) {
                Check.same("layer(" + k + ", " + what + ")", house.layer(k, what), due[k][what]);
            }
        }
        Check.noIndex("layer(4, 0)", house, () -> house.layer(4, 0));
        Check.noIndex("layer(-1, 0)", house, () -> house.layer(-1, 0));
        Check.noIndex("layer(0, 8)", house, () -> house.layer(0, 8));
        Check.noIndex("layer(0, -1)", house, () -> house.layer(0, -1));
    }

    private static void terms() {
        LossHouse house = Check.houseWith("layer a 10 * year + line + amount xs 5 - year yearly 100 - 20 * year"
                + " after 3 * year + line + amount; layer b 7 xs year;");
        for (int year = 0; year <= 9; year++) {
            Check.same("limit of " + year, house.terms(0, year, 0), 10 * year);
            Check.same("retention of " + year, house.terms(0, year, 1), Math.max(5 - year, 0));
            Check.same("after of " + year, house.terms(0, year, 2), 3 * year);
            Check.same("bound of " + year, house.terms(0, year, 3), Math.max(100 - 20 * year, 0));
            Check.same("retention of the other", house.terms(1, year, 1), year);
            Check.same("after of the other", house.terms(1, year, 2), 0);
            Check.same("bound of the other", house.terms(1, year, 3), -1);
        }
        Check.noIndex("terms(2, 0, 0)", house, () -> house.terms(2, 0, 0));
        Check.noIndex("terms(-1, 0, 0)", house, () -> house.terms(-1, 0, 0));
        Check.noIndex("terms(0, 10, 0)", house, () -> house.terms(0, 10, 0));
        Check.noIndex("terms(0, -1, 0)", house, () -> house.terms(0, -1, 0));
        Check.noIndex("terms(0, 0, 4)", house, () -> house.terms(0, 0, 4));
        Check.noIndex("terms(0, 0, -1)", house, () -> house.terms(0, 0, -1));
    }

    private static void bounds() {
        LossHouse house = Check.houseWith("layer a 100 xs 1 yearly 250 reinstate 1; layer b 100 xs 1 yearly 150 reinstate 1;"
                + "layer c 100 xs 1 reinstate 0; layer d 5000*100000 xs 1 reinstate 4; layer e 0-1 xs 1 reinstate 4;"
                + "layer f 1 xs 1 yearly 0-1; layer g 5000*100000 xs 1 yearly 7*7 reinstate 4; layer h 1 xs 1;");
        int[] due = {200, 150, 100, Integer.MAX_VALUE, 0, 0, 49, -1};
        for (int k = 0; k < 8; k++) {
            Check.same("bound of layer " + k, house.terms(k, 0, 3), due[k]);
        }
        Check.same("a great limit", house.terms(3, 0, 0), 500000000);
        // the bound of d, 2500000000, is more than fits, and so is the room below it
        house.open(0, 0, 1000000);
        Check.same("room below a great bound", house.used(3, 0, 1), Integer.MAX_VALUE);
        Check.taught(house, "layer a 2147400*1000 xs 0 reinstate 0;");
        Check.same("room", house.used(0, 0, 1), 2146400000);
    }

    private static void arithmetic() {
        value("7/2", 3);
        value("10-(0-7)/2", 13);
        value("10-7/(0-2)", 13);
        value("5/0+4", 4);
        value("9-2-3", 4);
        value("100/10/5", 2);
        value("2+3*4", 14);
        value("(2+3)*4", 20);
        value("-2*-3", 6);
        value("10--2-3", 9);
        value("--4", 4);
        value("min(3,4)*10+max(3,4)", 34);
        value("min(0-3,4)+10", 7);
        value("max(0-3,0-4)+10", 7);
        value("65536*65536+5", 5);
        value("65536*65535", 0);
        value("65536*32767+65535+1+1", 0);
        value("65536*32768-1", 2147483647);
        value("65536*32768", 0);
        value("65536*32768/-1-1", 2147483647);
        value("-(65536*32768)-1", 2147483647);
        value("65536*32767+65535", 2147483647);
        value("0-1", 0);
        value("0*line+year-amount", 0);
    }

    /** What a sum tells as a limit, a retention, and behind yearly and after. */
    private static void value(String sum, int due) {
        LossHouse house = Check.houseWith("layer a " + sum + " xs " + sum + " yearly " + sum + " after " + sum + ";");
        for (int what = 0; what <= 3; what++) {
            Check.same(sum + " as " + what, house.terms(0, 0, what), due);
        }
    }

    private static void losses() {
        LossHouse house = Check.houseWith("layer a 40 xs 100; layer b 10 * line xs 20 * line; layer c amount / 2 xs amount / 4;"
                + "layer d 1000 xs 0-50; layer e 0-50 xs 0;");
        int[] reserves = {0, 99, 100, 101, 140, 141, 1000};
        for (int i = 0; i < reserves.length; i++) {
            house.open(0, i % 6, reserves[i]);
        }
        int[][] due = {{0, 0, 0, 1, 40, 40, 40}, {0, 10, 20, 30, 40, 41, 0}, {0, 49, 50, 50, 70, 70, 500},
            {0, 99, 100, 101, 140, 141, 1000}, {0, 0, 0, 0, 0, 0, 0}};
        for (int k = 0; k < due.length; k++) {
            for (int i = 0; i < reserves.length; i++) {
                Check.same("gets(" + k + ", " + i + ")", house.gets(k, i, false), due[k][i]);
                Check.same("gets(" + k + ", " + i + ") of what is paid", house.gets(k, i, true), 0);
            }
        }
        house.pay(6, 120);
        Check.same("gets of what is paid", house.gets(0, 6, true), 20);
        Check.same("gets of what is paid, by the amount paid", house.gets(2, 6, true), 60);
        Check.noIndex("gets(5, 0)", house, () -> house.gets(5, 0, true));
        Check.noIndex("gets(-1, 0)", house, () -> house.gets(-1, 0, true));
        Check.noIndex("gets(0, 7)", house, () -> house.gets(0, 7, false));
        Check.noIndex("gets(0, -1)", house, () -> house.gets(0, -1, false));
    }

    private static void tests() {
        holds("line = 2", true);
        holds("line = 3", false);
        holds("year = 1", true);
        holds("amount = 500", true);
        holds("amount < 500", false);
        holds("amount <= 500", true);
        holds("amount <= 499", false);
        holds("not amount <= 499", true);
        holds("amount >= 501", false);
        holds("amount > 500", false);
        holds("amount >= 500", true);
        holds("0-1 < 0", true);
        holds("not 1 < 2", false);
        holds("not not 1 < 2", true);
        holds("not 1 < 2 or 1 < 2", true);
        holds("not 2 < 1 and 2 < 1", false);
        holds("not [2 < 1 and 2 < 1]", true);
        holds("1 < 2 or 1 < 2 and 2 < 1", true);
        holds("[1 < 2 or 1 < 2] and 2 < 1", false);
        holds("2 < 1 and 1 < 2 or 1 < 2", true);
        holds("2 < 1 or 3 < 1", false);
        holds("65536 * 32768 < 0", true);
        holds("1/0 = 0", true);
        holds("min(line, year) = 1 and max(line, year) = 2", true);
    }

    private static void holds(String test, boolean due) {
        LossHouse house = Check.houseWith("layer a 100 xs 0 when " + test + ";");
        house.nextYear();
        house.open(1, 2, 500);
        Check.same("gets when " + test, house.gets(0, 0, false), due ? 100 : 0);
    }

    private static void years() {
        LossHouse house = Check.houseWith("layer a 100 xs 10 yearly 150 after 50;");
        house.nextYear();
        int[] years = {0, 1, 0, 1, 0, 0};
        int[] reserves = {90, 1000, 100, 30, 1000, 1000};
        for (int i = 0; i < 6; i++) {
            house.open(years[i], 0, reserves[i]);
        }
        // losses of year 0: 80, 90, 100, 100; beyond 50: 30, 120, 220, 320; at most 150
        int[] due = {30, 50, 90, 20, 30, 0};
        for (int i = 0; i < 6; i++) {
            Check.same("gets(0, " + i + ")", house.gets(0, i, false), due[i]);
        }
        int[][] used = {{150, 0, 0, 3}, {70, 80, 0, 2}, {0, 150, 0, 0}};
        for (int year = 0; year < 3; year++) {
            for (int what = 0; what <= 3; what++) {
                Check.same("used(0, " + year + ", " + what + ")", house.used(0, year, what), used[year][what]);
            }
        }
        house.close(0, true);
        Check.same("gets with a lower claim ahead", house.gets(0, 4, false), 100);
        LossHouse small = Check.houseWith("layer a 1 xs 0 share 1;");
        small.open(0, 0, 500);
        small.open(0, 0, 0);
        Check.same("claims of which 1 is borne", small.used(0, 0, 3), 1);
        Check.noIndex("used(1, 0, 0)", house, () -> house.used(1, 0, 0));
        Check.noIndex("used(-1, 0, 0)", house, () -> house.used(-1, 0, 0));
        Check.noIndex("used(0, 10, 0)", house, () -> house.used(0, 10, 0));
        Check.noIndex("used(0, -1, 0)", house, () -> house.used(0, -1, 0));
        Check.noIndex("used(0, 0, 4)", house, () -> house.used(0, 0, 4));
        Check.noIndex("used(0, 0, -1)", house, () -> house.used(0, 0, -1));
        Check.taught(house, "layer a 100 xs 10;");
        Check.same("used without a bound", house.used(0, 0, 1), -1);
        Check.same("used without a bound", house.used(0, 0, 0), 290);
    }

    private static void nets() {
        LossHouse house = Check.houseWith("layer a 100 xs 0 share 50; layer b 1000 xs 0 share 30; layer c 400 xs 100 net of a, b;"
                + "layer d 1000 xs 0 net of a, b, c; layer e 5000 xs 0 net of d;");
        house.open(0, 0, 500);
        house.open(0, 0, 1000);
        // a gets 50, b 150 of 500: c has the subject 300, d 300 - 200, e 500 - 100
        int[][] due = {{50, 50}, {150, 300}, {200, 400}, {100, 250}, {400, 750}};
        for (int k = 0; k < 5; k++) {
            Check.same("gets(" + k + ", 0)", house.gets(k, 0, false), due[k][0]);
            Check.same("gets(" + k + ", 1)", house.gets(k, 1, false), due[k][1]);
        }
        // more than the amount is got: nothing is left, and nothing less than nothing
        Check.same("left", house.claim(0, 7), 0);
        Check.same("left", house.claim(1, 7), 0);
        Check.taught(house, "layer a 100 xs 0; layer b 500 xs 0; layer c 500 xs 0 net of a, b; layer d 9 xs 0;");
        Check.same("a subject of nothing", house.gets(2, 0, false), 0);
        Check.same("a subject of the rest", house.gets(2, 1, false), 400);
        Check.taught(house, "layer a 300 xs 0; layer b 500 xs 0 net of a when amount = 500;");
        Check.same("the amount, not the subject, in a test", house.gets(1, 0, false), 200);
        Check.same("the amount, not the subject, in a test", house.gets(1, 1, false), 0);
        // what a layer bears, not its loss, is what the next one is net of
        Check.taught(house, "layer a 300 xs 0 yearly 400; layer b 5000 xs 0 net of a;");
        Check.same("net of what is got", house.gets(1, 1, false), 900);
    }

    private static void shares() {
        LossHouse house = Check.houseWith("layer a 1000000 xs 0 share 33;");
        house.open(0, 0, 199);
        house.open(0, 0, 3);
        house.open(0, 0, 1000000);
        Check.same("a cut share", house.gets(0, 0, false), 65);
        Check.same("a share of nothing", house.gets(0, 1, false), 0);
        Check.same("a great share", house.gets(0, 2, false), 330000);
        Check.same("left", house.claim(0, 7), 134);
        Check.same("the layer bears all the same", house.used(0, 0, 0), 1000202);
        Check.same("claims with something borne", house.used(0, 0, 3), 3);
        house.pay(2, 1000000);
        house.setReserve(2, 1000000);
        Check.taught(house, "layer a 2000000 xs 0 share 99;");
        Check.same("the greatest amount", house.gets(0, 2, false), 1980000);
    }

    private static void charges() {
        LossHouse house = Check.houseWith("layer a 100 xs 0 share 90 reinstate 3 at 150 at 33; layer b 100 xs 0 reinstate 2;"
                + "layer c 100 xs 0; layer d 0 xs 0 reinstate 2 at 300; layer e 30 xs 0 share 50 reinstate 4 at 1 at 1 at 1 at 1;");
        house.open(0, 0, 60);
        Check.same("charged for 60", house.used(0, 0, 2), 81);
        house.open(0, 0, 60);
        // 100 * 150 / 100 + 20 * 33 / 100 (6) = 156, * 90 / 100
        Check.same("charged for 120", house.used(0, 0, 2), 140);
        house.open(0, 0, 500);
        Check.same("charged for 220", house.used(0, 0, 2), 164);
        house.open(0, 0, 500);
        house.open(0, 0, 500);
        Check.same("charged for 400", house.used(0, 0, 2), 164);
        Check.same("used", house.used(0, 0, 0), 400);
        Check.same("without an at", house.used(1, 0, 2), 0);
        Check.same("without reinstate", house.used(2, 0, 2), 0);
        Check.same("with the limit 0", house.used(3, 0, 2), 0);
        // each of the parts of 30 is cut by itself
        Check.same("cut parts", house.used(4, 0, 2), 0);
        Check.same("count(8)", house.count(8), 164);
        house.nextYear();
        house.open(1, 0, 100);
        Check.same("count(8) of two years", house.count(8), 164 + 135);
        house.pay(5, 10);
        Check.same("charged on what is incurred", house.used(0, 1, 2), 135);
        // the limit of the year by itself, not that of a claim, splits the parts
        Check.taught(house, "layer a 50 + 50 * line xs 0 yearly 1000 reinstate 3 at 100 at 10;");
        house.open(1, 1, 100);
        house.open(1, 1, 20);
        Check.same("parts of the year's limit", house.used(0, 1, 2), 50 + 5);
        Check.same("bound by the year's limit", house.used(0, 1, 0), 170);
        Check.taught(house, "layer a 1000000 xs 0 reinstate 4 at 300 at 300 at 300 at 300;");
        for (int i = 0; i < 4; i++) {
            house.open(1, 0, 1000000);
        }
        // the fifth million is borne, too, but the fourth reinstatement is the last one
        Check.same("a great charge", house.used(0, 1, 2), 12000000);
        Check.same("what is borne beyond it", house.used(0, 1, 0), 4000220);
    }
}
