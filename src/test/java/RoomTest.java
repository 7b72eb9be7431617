import com.sun.management.ThreadMXBean;
import java.lang.management.ManagementFactory;
import java.util.function.Consumer;

/**
 * All calls of one run live in one room of some 600,000 objects: an object takes 16 bytes at least, so what 512 calls
 * make has to stay below 16 times as many bytes.
 */
final class RoomTest {
    private static final long ROOM = 16L * 600000;

    public static void main(String[] args) {
        LossHouse house = full();
        asked("count", house, h -> h.count(8));
        asked("claim", house, h -> h.claim(39, 7));
        asked("used", house, h -> h.used(7, 9, 2));
        asked("triangle", house, h -> h.triangle(3, 0, 9));
        asked("factor", house, h -> h.factor(3, 0));
        asked("ultimate", house, h -> h.ultimate(3, 9, false));
        asked("worst", house, h -> h.worst(2));
        asked("would", house, h -> h.would(39, 1000, 2));
        asked("without", house, h -> h.without(0));
        asked("reaches", house, h -> h.reaches(39, 7));
        asked("keenest", house, LossHouse::keenest);
        asked("kept", house, LossHouse::kept);
        asked("digest", house, LossHouse::digest);
        taughtAgainAndAgain("layer a 1 xs 1;", 250);
        taughtAgainAndAgain(Check.times("layer a 1 xs 1;", 66), 9);
        taughtAgainAndAgain("layer a 1" + Check.times("+1", 197) + " xs 1;", 20);
        Check.end();
    }

    private static LossHouse full() {
        StringBuilder text = new StringBuilder();
        for (char name = 'a'; name <= 'h'; name++) {
            text.append("layer ").append(name).append(" 90000 + line xs 30000 - year share 90 yearly 300000 after 500 reinstate 4;");
        }
        LossHouse house = Check.houseWith(text.toString());
        for (int i = 0; i < 40; i++) {
            house.open(i / 4, i % 6, 10000 * i);
            if (i % 4 == 3 && i < 39) {
                house.nextYear();
            }
        }
        return house;
    }

    /** A question makes nothing: its rows are made by the constructor. */
    private static void asked(String name, LossHouse house, Consumer<LossHouse> call) {
        call.accept(house);
        long before = made();
        for (int i = 0; i < 10; i++) {
            call.accept(house);
        }
        long made = made() - before;
        Check.same(name + " makes " + made + " bytes in ten calls", made < ROOM / 51 ? 1 : 0, 1);
    }

    private static void taughtAgainAndAgain(String text, int times) {
        long before = made();
        LossHouse house = new LossHouse();
        int[] numbers = new int[5];
        for (int i = 0; i < times; i++) {
            feed(house, text, numbers);
            house.trim(text.length());
            house.teach();
        }
        long made = made() - before;
        Check.same("teach of " + text.length() + " bytes makes " + made + " bytes", made < ROOM ? 1 : 0, 1);
    }

    /** As Check.write, but making nothing itself. */
    private static void feed(LossHouse house, String text, int[] numbers) {
        for (int at = 0; at < text.length(); at += 20) {
            for (int k = 0; k < 20; k++) {
                int b = at + k < text.length() ? text.charAt(at + k) : 0;
                numbers[k / 4] = numbers[k / 4] << 8 | b;
            }
            house.feed(numbers[0], numbers[1], numbers[2], numbers[3], numbers[4]);
        }
    }

    private static long made() {
        ThreadMXBean threads = (ThreadMXBean) ManagementFactory.getThreadMXBean();
        return threads.getCurrentThreadAllocatedBytes();
    }
}
