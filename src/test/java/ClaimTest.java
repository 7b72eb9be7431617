/** Promises 9 to 14: open, pay, setReserve, close, claim, at. */
final class ClaimTest {
    public static void main(String[] args) {
        opening();
        paying();
        reserving();
        closing();
        telling();
        ages();
        Check.end();
    }

    private static void opening() {
        LossHouse house = new LossHouse();
        Check.noArgument("open(1, 0, 0)", house, () -> house.open(1, 0, 0));
        Check.noArgument("open(-1, 0, 0)", house, () -> house.open(-1, 0, 0));
        Check.noArgument("open(0, 6, 0)", house, () -> house.open(0, 6, 0));
        Check.noArgument("open(0, -1, 0)", house, () -> house.open(0, -1, 0));
        Check.noArgument("open(0, 0, 1000001)", house, () -> house.open(0, 0, 1000001));
        Check.noArgument("open(0, 0, -1)", house, () -> house.open(0, 0, -1));
        Check.same("open", house.open(0, 5, 1000000), 0);
        house.nextYear();
        Check.noArgument("open(2, 0, 0)", house, () -> house.open(2, 0, 0));
        Check.same("open", house.open(1, 0, 0), 1);
        for (int i = 2; i < 40; i++) {
            Check.same("open", house.open(i % 2, i % 6, i), i);
        }
        Check.noState("open of the 41st", house, () -> house.open(0, 0, 0));
        Check.noArgument("open of the 41st, of a wrong line", house, () -> house.open(0, 6, 0));
        house.close(3, true);
        Check.noState("open with a closed one", house, () -> house.open(0, 0, 0));
        Check.same("count(1)", house.count(1), 40);
        Check.same("count(2)", house.count(2), 39);
    }

    private static void paying() {
        LossHouse house = new LossHouse();
        house.open(0, 0, 500);
        Check.same("pay", house.pay(0, 200), 200);
        Check.same("reserve", house.claim(0, 3), 300);
        Check.same("incurred", house.claim(0, 4), 500);
        Check.same("pay more than the reserve", house.pay(0, 301), 501);
        Check.same("reserve", house.claim(0, 3), 0);
        Check.same("incurred", house.claim(0, 4), 501);
        Check.noArgument("pay(0, 0)", house, () -> house.pay(0, 0));
        Check.noArgument("pay(0, -1)", house, () -> house.pay(0, -1));
        Check.noArgument("pay(0, 1000001)", house, () -> house.pay(0, 1000001));
        Check.noArgument("pay(0, the greatest)", house, () -> house.pay(0, Integer.MAX_VALUE));
        Check.noState("pay too much", house, () -> house.pay(0, 999500));
        Check.same("pay", house.pay(0, 999499), 1000000);
        Check.noState("pay too much", house, () -> house.pay(0, 1));
        Check.noIndex("pay(1, 1)", house, () -> house.pay(1, 1));
        Check.noIndex("pay(1, 0)", house, () -> house.pay(1, 0));
        Check.noIndex("pay(-1, 0)", house, () -> house.pay(-1, 0));
        house.open(0, 0, 10);
        house.close(1, true);
        Check.noState("pay on a closed claim", house, () -> house.pay(1, 1));
        Check.noArgument("pay nothing on a closed claim", house, () -> house.pay(1, 0));
        house.close(1, false);
        Check.same("pay on a claim opened again", house.pay(1, 1000000), 1000000);
    }

    private static void reserving() {
        LossHouse house = new LossHouse();
        house.open(0, 0, 500);
        Check.same("setReserve", house.setReserve(0, 1000000), 500);
        Check.same("setReserve", house.setReserve(0, 0), 1000000);
        Check.same("setReserve", house.setReserve(0, 7), 0);
        Check.noArgument("setReserve(0, 1000001)", house, () -> house.setReserve(0, 1000001));
        Check.noArgument("setReserve(0, -1)", house, () -> house.setReserve(0, -1));
        Check.noIndex("setReserve(1, 0)", house, () -> house.setReserve(1, 0));
        Check.noIndex("setReserve(-1, -1)", house, () -> house.setReserve(-1, -1));
        house.close(0, true);
        Check.noState("setReserve of a closed claim", house, () -> house.setReserve(0, 5));
        Check.noArgument("setReserve below 0 of a closed claim", house, () -> house.setReserve(0, -1));
        Check.noIndex("setReserve of none", house, () -> house.setReserve(1, -1));
    }

    private static void closing() {
        LossHouse house = new LossHouse();
        house.open(0, 0, 500);
        house.pay(0, 100);
        Check.same("close(0, false)", house.close(0, false), 400);
        Check.same("reserve", house.claim(0, 3), 400);
        Check.same("close(0, true)", house.close(0, true), 400);
        Check.same("reserve", house.claim(0, 3), 0);
        Check.same("incurred", house.claim(0, 4), 100);
        Check.same("open", house.claim(0, 5), 0);
        Check.same("count(2)", house.count(2), 0);
        Check.same("close(0, true)", house.close(0, true), 0);
        Check.same("close(0, false)", house.close(0, false), 0);
        Check.same("open", house.claim(0, 5), 1);
        Check.same("reserve", house.claim(0, 3), 0);
        Check.noIndex("close(1, true)", house, () -> house.close(1, true));
        Check.noIndex("close(-1, false)", house, () -> house.close(-1, false));
    }

    private static void telling() {
        LossHouse house = Check.houseWith("layer a 300 xs 100;");
        house.nextYear();
        house.open(0, 4, 500);
        house.open(1, 5, 50);
        house.pay(0, 150);
        Check.same("claim(0, 7) ahead of all other questions", house.claim(0, 7), 200);
        int[] due = {0, 4, 150, 350, 500, 1, 100, 200};
        int[] dueNext = {1, 5, 0, 50, 50, 1, 0, 50};
        for (int what = 0; what <= 7; what++) {
            Check.same("claim(0, " + what + ")", house.claim(0, what), due[what]);
            Check.same("claim(1, " + what + ")", house.claim(1, what), dueNext[what]);
        }
        Check.noIndex("claim(2, 0)", house, () -> house.claim(2, 0));
        Check.noIndex("claim(-1, 0)", house, () -> house.claim(-1, 0));
        Check.noIndex("claim(0, 8)", house, () -> house.claim(0, 8));
        Check.noIndex("claim(0, -1)", house, () -> house.claim(0, -1));
    }

    private static void ages() {
        LossHouse house = new LossHouse();
        house.open(0, 0, 500);
        house.pay(0, 100);
        Check.same("at now", house.at(0, 0, true), 100);
        Check.same("at now", house.at(0, 0, false), 500);
        Check.noIndex("at(0, 1)", house, () -> house.at(0, 1, true));
        house.nextYear();
        house.pay(0, 50);
        house.setReserve(0, 900);
        house.open(0, 0, 70);
        house.open(1, 0, 80);
        int[][] due = {{0, 0, 100, 500}, {0, 1, 150, 1050}, {1, 0, 0, 0}, {1, 1, 0, 70}, {2, 0, 0, 80}};
        compare(house, due);
        Check.noIndex("at(2, 1)", house, () -> house.at(2, 1, true));
        house.nextYear();
        house.nextYear();
        house.close(0, true);
        house.pay(2, 80);
        house.open(1, 0, 33);
        compare(house, due);
        int[][] later = {{0, 2, 150, 1050}, {0, 3, 150, 150}, {1, 3, 0, 70}, {2, 1, 0, 80}, {2, 2, 80, 80}, {3, 0, 0, 0},
            {3, 1, 0, 0}, {3, 2, 0, 33}};
        compare(house, later);
        Check.noIndex("at(0, 4)", house, () -> house.at(0, 4, true));
        Check.noIndex("at(2, 3)", house, () -> house.at(2, 3, false));
        Check.noIndex("at(0, -1)", house, () -> house.at(0, -1, true));
        Check.noIndex("at(4, 0)", house, () -> house.at(4, 0, true));
        Check.noIndex("at(-1, 0)", house, () -> house.at(-1, 0, true));
        for (int i = 0; i < 6; i++) {
            house.nextYear();
        }
        compare(house, later);
        Check.same("at the age 9", house.at(0, 9, false), 150);
    }

    private static void compare(LossHouse house, int[][] due) {
        for (int[] row : due) {
            Check.same("at(" + row[0] + ", " + row[1] + ", true)", house.at(row[0], row[1], true), row[2]);
            Check.same("at(" + row[0] + ", " + row[1] + ", false)", house.at(row[0], row[1], false), row[3]);
        }
    }
}
