import java.util.List;
import java.util.function.Consumer;
import java.util.function.ObjIntConsumer;
import java.util.function.Supplier;

/**
 * Each 'Throws ..' sentence of the promises on both sides of its boundary, and "A method that throws an exception changes
 * nothing. If several exceptions apply, the one that is named first is thrown.": behind a refused call a house tells
 * all that it tells without that call.
 */
final class RefusalTest {
    private static final Class<? extends RuntimeException> INDEX = IndexOutOfBoundsException.class;
    private static final Class<? extends RuntimeException> ARGUMENT = IllegalArgumentException.class;
    private static final Class<? extends RuntimeException> STATE = IllegalStateException.class;
    private static final int LEAST = Integer.MIN_VALUE;
    private static final int GREATEST = Integer.MAX_VALUE;

    public static void main(String[] args) {
        tape();
        countsAndLayers();
        opening();
        paying();
        reserving();
        asking();
        goingOn();
        triangles();
        whatIfs();
        emptyHouses();
        otherCallsThrowNothing();
        Check.end();
    }

    // ---- houses to be asked

    /** In the year 2, with two layers, a claim of each year, the last one closed, and a text on the tape. */
    private static LossHouse small() {
        LossHouse house = Check.houseWith("layer a 300 xs 40 share 90 yearly 400 reinstate 2 at 100 at 50;"
                + "layer b 90 xs 10 after 5 net of a when amount > 20;");
        house.open(0, 1, 200);
        house.pay(0, 60);
        house.setPremium(0, 1000, 70);
        house.setPremium(8, 2000, 110);
        house.nextYear();
        house.open(1, 2, 500);
        house.pay(0, 20);
        house.setTail(1100);
        house.nextYear();
        house.open(2, 3, 80);
        house.close(2, true);
        // 50 bytes, a text: so teach() tells of all of them
        Check.write(house, "layer q 7 xs line reinstate 1 at 9;layer r 5 xs 2;");
        return house;
    }

    private static LossHouse full() {
        LossHouse house = small();
        for (int i = 3; i < 40; i++) {
            house.open(i % 3, i % 6, i);
        }
        return house;
    }

    private static LossHouse atTheEnd() {
        LossHouse house = small();
        for (int year = 3; year <= 9; year++) {
            house.nextYear();
        }
        return house;
    }

    private static LossHouse fed(int length) {
        LossHouse house = small();
        house.trim(0);
        for (int fed = 0; fed < length; fed += 20) {
            house.feed(0x6c617965, 0x72207120, 0x37207873, 0x20333b20, 0x20202020);
        }
        house.trim(length);
        return house;
    }

    // ---- what is tested of a call

    private static void refused(String name, Supplier<LossHouse> made, Consumer<LossHouse> call, Class<?> due) {
        LossHouse house = made.get();
        String got = Check.thrownBy(() -> call.accept(house));
        Check.same(name + " throws " + got + ", due is " + due.getSimpleName(), got.equals(due.getSimpleName()) ? 1 : 0, 1);
        List<String> told = Told.by(house);
        List<String> without = Told.by(made.get());
        for (int i = 0; i < without.size(); i++) {
            boolean isSame = told.get(i).equals(without.get(i));
            Check.same(name + ", behind it: " + told.get(i) + ", without it: " + without.get(i), isSame ? 1 : 0, 1);
        }
    }

    private static void accepted(String name, Supplier<LossHouse> made, Consumer<LossHouse> call) {
        LossHouse house = made.get();
        String got = Check.thrownBy(() -> call.accept(house));
        Check.same(name + " throws " + got + ", due is nothing", got.equals("nothing") ? 1 : 0, 1);
    }

    /** The least and the greatest good argument, and what is just beyond them, and far beyond. */
    private static void range(String name, Supplier<LossHouse> made, ObjIntConsumer<LossHouse> call, int least, int most,
            Class<?> due) {
        for (int good : new int[] {least, most}) {
            accepted(name + " with " + good, made, house -> call.accept(house, good));
        }
        for (int wrong : new int[] {least - 1, most + 1, LEAST, GREATEST}) {
            refused(name + " with " + wrong, made, house -> call.accept(house, wrong), due);
        }
    }

    private static void range(String name, ObjIntConsumer<LossHouse> call, int least, int most, Class<?> due) {
        range(name, RefusalTest::small, call, least, most, due);
    }

    private static void refused(String name, Consumer<LossHouse> call, Class<?> due) {
        refused(name, RefusalTest::small, call, due);
    }

    // ---- promises 2 to 8

    private static void tape() {
        Consumer<LossHouse> feed = h -> h.feed(1, -2, 3, LEAST, GREATEST);
        accepted("feed to 2000", () -> fed(1980), feed);
        accepted("feed to 20", () -> fed(0), feed);
        refused("feed to 2001", () -> fed(1981), feed, STATE);
        refused("feed to 2019", () -> fed(1999), feed, STATE);
        refused("feed to 2020", () -> fed(2000), feed, STATE);
        range("trim", (h, n) -> h.trim(n), 0, 50, ARGUMENT);
        range("trim of nothing", () -> fed(0), (h, n) -> h.trim(n), 0, 0, ARGUMENT);
        range("trim of all", () -> fed(2000), (h, n) -> h.trim(n), 0, 2000, ARGUMENT);
    }

    private static void countsAndLayers() {
        range("count", (h, n) -> h.count(n), 0, 8, INDEX);
        range("layer of a layer", (h, n) -> h.layer(n, 0), 0, 1, INDEX);
        range("layer of a what", (h, n) -> h.layer(1, n), 0, 7, INDEX);
        range("terms of a layer", (h, n) -> h.terms(n, 0, 0), 0, 1, INDEX);
        range("terms of a year", (h, n) -> h.terms(1, n, 0), 0, 9, INDEX);
        range("terms of a what", (h, n) -> h.terms(1, 9, n), 0, 3, INDEX);
    }

    // ---- promises 9 to 16

    private static void opening() {
        range("open of a year", (h, n) -> h.open(n, 0, 0), 0, 2, ARGUMENT);
        range("open of a line", (h, n) -> h.open(2, n, 0), 0, 5, ARGUMENT);
        range("open with a reserve", (h, n) -> h.open(0, 5, n), 0, 1000000, ARGUMENT);
        range("open of a year at the end", RefusalTest::atTheEnd, (h, n) -> h.open(n, 0, 0), 0, 9, ARGUMENT);
        refused("open of the 41st", RefusalTest::full, h -> h.open(0, 0, 0), STATE);
        refused("open of the 41st, of a wrong year", RefusalTest::full, h -> h.open(3, 0, 0), ARGUMENT);
        refused("open of the 41st, of a wrong line", RefusalTest::full, h -> h.open(0, 6, 0), ARGUMENT);
        refused("open of the 41st, with a wrong reserve", RefusalTest::full, h -> h.open(0, 0, -1), ARGUMENT);
        accepted("open of the 40th", RefusalTest::small, h -> {
            for (int i = 3; i < 40; i++) {
                h.open(0, 0, 0);
            }
        });
    }

    private static void paying() {
        for (int claim = 0; claim <= 1; claim++) {
            int asked = claim;
            accepted("pay on the claim " + claim, RefusalTest::small, h -> h.pay(asked, 1));
        }
        range("pay an amount", (h, n) -> h.pay(1, n), 1, 1000000, ARGUMENT);
        // 80 are paid of the claim 0
        accepted("pay up to 1000000", RefusalTest::small, h -> h.pay(0, 999920));
        refused("pay up to 1000001", h -> h.pay(0, 999921), STATE);
        refused("pay up to 1000080", h -> h.pay(0, 1000000), STATE);
        refused("pay on a closed claim", h -> h.pay(2, 1), STATE);
        refused("pay 0 on a closed claim", h -> h.pay(2, 0), ARGUMENT);
        refused("pay too much on a closed claim", h -> h.pay(2, 1000001), ARGUMENT);
        refused("pay 0 on no claim", h -> h.pay(3, 0), INDEX);
        refused("pay too much on no claim", h -> h.pay(-1, 1000001), INDEX);
        accepted("pay on a claim opened again", RefusalTest::small, h -> {
            h.close(2, false);
            h.pay(2, 1);
        });
    }

    private static void reserving() {
        range("setReserve", (h, n) -> h.setReserve(1, n), 0, 1000000, ARGUMENT);
        accepted("setReserve of the first claim", RefusalTest::small, h -> h.setReserve(0, 5));
        refused("setReserve of a closed claim", h -> h.setReserve(2, 0), STATE);
        refused("setReserve of a closed claim to -1", h -> h.setReserve(2, -1), ARGUMENT);
        refused("setReserve of a closed claim to 1000001", h -> h.setReserve(2, 1000001), ARGUMENT);
        for (int wrong : new int[] {-1, 3, LEAST, GREATEST}) {
            refused("pay on " + wrong, h -> h.pay(wrong, 1), INDEX);
            refused("setReserve of " + wrong, h -> h.setReserve(wrong, 1), INDEX);
            refused("setReserve of " + wrong + " to -1", h -> h.setReserve(wrong, -1), INDEX);
        }
        range("close", (h, n) -> h.close(n, true), 0, 2, INDEX);
        range("close to open again", (h, n) -> h.close(n, false), 0, 2, INDEX);
    }

    private static void asking() {
        range("claim of a claim", (h, n) -> h.claim(n, 7), 0, 2, INDEX);
        range("claim of a what", (h, n) -> h.claim(2, n), 0, 7, INDEX);
        range("at of a claim", (h, n) -> h.at(n, 0, true), 0, 2, INDEX);
        for (int claim = 0; claim <= 2; claim++) {
            int asked = claim;
            range("at of the claim " + claim, (h, n) -> h.at(asked, n, false), 0, 2 - claim, INDEX);
        }
        range("at at the end", RefusalTest::atTheEnd, (h, n) -> h.at(0, n, true), 0, 9, INDEX);
        range("gets of a layer", (h, n) -> h.gets(n, 0, true), 0, 1, INDEX);
        range("gets of a claim", (h, n) -> h.gets(1, n, false), 0, 2, INDEX);
        range("used of a layer", (h, n) -> h.used(n, 0, 0), 0, 1, INDEX);
        range("used of a year", (h, n) -> h.used(1, n, 0), 0, 9, INDEX);
        range("used of a what", (h, n) -> h.used(1, 9, n), 0, 3, INDEX);
    }

    // ---- promises 17 to 24

    private static void goingOn() {
        accepted("nextYear", RefusalTest::small, h -> h.nextYear());
        refused("nextYear in the year 9", RefusalTest::atTheEnd, h -> h.nextYear(), STATE);
        range("setPremium of a year", (h, n) -> h.setPremium(n, 5, 5), 0, 9, INDEX);
        range("setPremium to a premium", (h, n) -> h.setPremium(8, n, 5), 0, 10000000, ARGUMENT);
        range("setPremium to an expected", (h, n) -> h.setPremium(0, 5, n), 0, 200, ARGUMENT);
        refused("setPremium of no year to -1", h -> h.setPremium(10, -1, 5), INDEX);
        refused("setPremium of no year to 201", h -> h.setPremium(-1, 5, 201), INDEX);
        range("setTail", (h, n) -> h.setTail(n), 1000, 3000, ARGUMENT);
    }

    private static void triangles() {
        range("triangle of a kind", (h, n) -> h.triangle(n, 0, 0), 0, 3, INDEX);
        range("triangle of a year", (h, n) -> h.triangle(3, n, 0), 0, 2, INDEX);
        for (int year = 0; year <= 2; year++) {
            int asked = year;
            range("triangle of the year " + year, (h, n) -> h.triangle(2, asked, n), 0, 2 - year, INDEX);
        }
        range("triangle at the end", RefusalTest::atTheEnd, (h, n) -> h.triangle(1, 0, n), 0, 9, INDEX);
        range("factor of a kind", (h, n) -> h.factor(n, 0), 0, 3, INDEX);
        range("factor of an age", (h, n) -> h.factor(3, n), 0, 8, INDEX);
        range("factor at the end", RefusalTest::atTheEnd, (h, n) -> h.factor(0, n), 0, 8, INDEX);
        range("ultimate of a kind", (h, n) -> h.ultimate(n, 0, true), 0, 3, INDEX);
        range("ultimate of a year", (h, n) -> h.ultimate(3, n, false), 0, 2, INDEX);
        range("reserve by a method", (h, n) -> h.reserve(n, 0), 0, 2, INDEX);
        range("reserve of a year", (h, n) -> h.reserve(2, n), 0, 2, INDEX);
        range("reserve at the end", RefusalTest::atTheEnd, (h, n) -> h.reserve(0, n), 0, 9, INDEX);
        range("worst", (h, n) -> h.worst(n), 0, 2, INDEX);
    }

    // ---- promises 25 to 30

    private static void whatIfs() {
        range("would of a claim", (h, n) -> h.would(n, 0, 0), 0, 2, INDEX);
        range("would of a what", (h, n) -> h.would(2, 0, n), 0, 2, INDEX);
        range("would with a reserve", (h, n) -> h.would(2, n, 1), 0, 1000000, ARGUMENT);
        refused("would of no claim with a wrong reserve", h -> h.would(3, -1, 0), INDEX);
        refused("would of no what with a wrong reserve", h -> h.would(0, 1000001, 3), INDEX);
        range("without", (h, n) -> h.without(n), 0, 1, INDEX);
        range("reaches of a claim", (h, n) -> h.reaches(n, 1), 0, 2, INDEX);
        range("reaches of a layer", (h, n) -> h.reaches(2, n), 0, 1, INDEX);
    }

    /** There is neither a layer nor a claim 0. */
    private static void emptyHouses() {
        Supplier<LossHouse> made = LossHouse::new;
        for (int n : new int[] {0, -1, 1}) {
            refused("layer " + n, made, h -> h.layer(n, 0), INDEX);
            refused("terms " + n, made, h -> h.terms(n, 0, 0), INDEX);
            refused("used " + n, made, h -> h.used(n, 0, 0), INDEX);
            refused("without " + n, made, h -> h.without(n), INDEX);
            refused("pay " + n, made, h -> h.pay(n, 1), INDEX);
            refused("setReserve " + n, made, h -> h.setReserve(n, 1), INDEX);
            refused("close " + n, made, h -> h.close(n, true), INDEX);
            refused("claim " + n, made, h -> h.claim(n, 0), INDEX);
            refused("at " + n, made, h -> h.at(n, 0, true), INDEX);
            refused("would " + n, made, h -> h.would(n, 0, 0), INDEX);
            refused("gets of a claim " + n, () -> Check.houseWith("layer a 1 xs 1;"), h -> h.gets(0, n, true), INDEX);
            refused("reaches of a claim " + n, () -> Check.houseWith("layer a 1 xs 1;"), h -> h.reaches(n, 0), INDEX);
            refused("gets of a layer " + n, RefusalTest::withoutLayers, h -> h.gets(n, 0, true), INDEX);
            refused("reaches of a layer " + n, RefusalTest::withoutLayers, h -> h.reaches(0, n), INDEX);
        }
    }

    private static LossHouse withoutLayers() {
        LossHouse house = new LossHouse();
        house.open(0, 0, 10);
        return house;
    }

    private static void otherCallsThrowNothing() {
        for (Supplier<LossHouse> made : List.<Supplier<LossHouse>>of(LossHouse::new, RefusalTest::small, RefusalTest::full,
                RefusalTest::atTheEnd, () -> fed(2000), () -> fed(0))) {
            accepted("teach", made, h -> h.teach());
            accepted("errorAt", made, h -> h.errorAt());
            accepted("keenest", made, h -> h.keenest());
            accepted("kept", made, h -> h.kept());
            accepted("digest", made, h -> h.digest());
        }
    }
}
