import java.nio.charset.StandardCharsets;
import java.util.Arrays;

/** What the tests share: comparing answers, counting the wrong ones, and writing texts to the tape. */
final class Check {
    private static int wrong = 0;
    private static int made = 0;

    private Check() {
    }

    static void same(String what, long got, long due) {
        made++;
        if (got != due) {
            wrong++;
            System.out.println(what + " answered " + got + ", due is " + due);
        }
    }

    static void same(String what, double got, double due) {
        made++;
        if (got != due) {
            wrong++;
            System.out.println(what + " answered " + got + ", due is " + due);
        }
    }

    static void same(String what, String got, String due) {
        made++;
        if (!got.equals(due)) {
            wrong++;
            System.out.println(what + " answered " + got + ", due is " + due);
        }
    }

    /** The call has to throw just this exception, and to leave all that the house tells as it was. */
    static void refused(String what, LossHouse house, Class<? extends RuntimeException> due, Runnable call) {
        made++;
        long before = house.digest();
        int errorBefore = house.errorAt();
        String got = thrownBy(call);
        if (!got.equals(due.getSimpleName())) {
            wrong++;
            System.out.println(what + " threw " + got + ", due is " + due.getSimpleName());
        }
        same(what + ": the digest behind it", house.digest(), before);
        same(what + ": errorAt() behind it", house.errorAt(), errorBefore);
    }

    /** The name of the exception that the program itself throws, "nothing" if none is thrown. */
    static String thrownBy(Runnable call) {
        try {
            call.run();
            return "nothing";
        } catch (RuntimeException e) {
            StackTraceElement[] frames = e.getStackTrace();
            boolean isOfProgram = frames.length > 0 && frames[0].getClassName().equals("LossHouse");
            return e.getClass().getSimpleName() + (isOfProgram ? "" : " by the machine or the library");
        }
    }

    static void noIndex(String what, LossHouse house, Runnable call) {
        refused(what, house, IndexOutOfBoundsException.class, call);
    }

    static void noArgument(String what, LossHouse house, Runnable call) {
        refused(what, house, IllegalArgumentException.class, call);
    }

    static void noState(String what, LossHouse house, Runnable call) {
        refused(what, house, IllegalStateException.class, call);
    }

    /** Appends a text to an empty tape, and trims what is fed too much. */
    static void write(LossHouse house, String text) {
        byte[] bytes = text.getBytes(StandardCharsets.ISO_8859_1);
        byte[] padded = Arrays.copyOf(bytes, (bytes.length + 19) / 20 * 20);
        for (int i = 0; i < padded.length; i += 20) {
            house.feed(number(padded, i), number(padded, i + 4), number(padded, i + 8), number(padded, i + 12),
                    number(padded, i + 16));
        }
        house.trim(bytes.length);
    }

    private static int number(byte[] bytes, int at) {
        return (bytes[at] & 255) << 24 | (bytes[at + 1] & 255) << 16 | (bytes[at + 2] & 255) << 8 | bytes[at + 3] & 255;
    }

    /** A text with this error at this position, or with none: 0 and -1. */
    static void taught(LossHouse house, String text, int error, int position) {
        write(house, text);
        same("teach() of '" + text + "'", house.teach(), error);
        same("errorAt() of '" + text + "'", house.errorAt(), position);
        same("count(4) behind teach()", house.count(4), 0);
    }

    static void taught(LossHouse house, String text) {
        taught(house, text, 0, -1);
    }

    /** The same, of a house of its own: an object is used for at most 512 calls. */
    static void reads(String text, int error, int position) {
        taught(new LossHouse(), text, error, position);
    }

    static void reads(String text) {
        reads(text, 0, -1);
    }

    static LossHouse houseWith(String text) {
        LossHouse house = new LossHouse();
        taught(house, text);
        return house;
    }

    static String times(String part, int n) {
        return part.repeat(n);
    }

    static void end() {
        System.out.println(made + " answers looked at, " + wrong + " wrong");
        if (wrong != 0) {
            System.exit(1);
        }
    }
}
