import java.util.ArrayList;
import java.util.List;
import java.util.function.IntSupplier;

/** All that a small house tells, to be compared with what another one tells: of two layers, three claims and now at most. */
final class Told {
    private final LossHouse house;
    private final List<String> answers = new ArrayList<>();

    private Told(LossHouse house) {
        this.house = house;
    }

    /** In some 400 calls; at the end the house is used up, as the last ones change it. */
    static List<String> by(LossHouse house) {
        Told told = new Told(house);
        told.add("digest " + house.digest());
        told.add("errorAt " + house.errorAt());
        told.add("kept " + house.kept());
        told.add("keenest " + house.keenest());
        told.counts();
        told.layers();
        told.claims();
        told.years();
        told.tapeAndYearsToCome();
        return told.answers;
    }

    private void add(String answer) {
        answers.add(answer);
    }

    /** An answer, or the exception that the call throws: there may be fewer layers, claims and years. */
    private void ask(String call, IntSupplier answer) {
        try {
            add(call + " " + answer.getAsInt());
        } catch (RuntimeException e) {
            add(call + " " + e.getClass().getSimpleName());
        }
    }

    private void counts() {
        for (int what = 0; what <= 8; what++) {
            int asked = what;
            ask("count " + what, () -> house.count(asked));
        }
    }

    private void layers() {
        for (int k = 0; k < Math.min(house.count(0), 2); k++) {
            int layer = k;
            for (int n = 0; n < 8; n++) {
                int what = n;
                ask("layer " + k + " " + n, () -> house.layer(layer, what));
            }
            for (int n = 0; n < 40; n++) {
                int year = n / 4;
                int what = n % 4;
                ask("terms " + k + " " + n, () -> house.terms(layer, year, what));
            }
            for (int n = 0; n < 12; n++) {
                int year = n / 4;
                int what = n % 4;
                ask("used " + k + " " + n, () -> house.used(layer, year, what));
            }
            ask("without " + k, () -> house.without(layer));
        }
    }

    private void claims() {
        for (int i = 0; i < Math.min(house.count(1), 3); i++) {
            int claim = i;
            for (int n = 0; n < 8; n++) {
                int what = n;
                ask("claim " + i + " " + n, () -> house.claim(claim, what));
            }
            for (int n = 0; n < 6; n++) {
                int age = n / 2;
                boolean isPaid = n % 2 == 0;
                ask("at " + i + " " + n, () -> house.at(claim, age, isPaid));
            }
            for (int n = 0; n < 4; n++) {
                int layer = n / 2;
                boolean isPaid = n % 2 == 0;
                ask("gets " + i + " " + n, () -> house.gets(layer, claim, isPaid));
            }
            ask("would " + i, () -> house.would(claim, 12345, 0));
            ask("reaches " + i, () -> house.reaches(claim, 0));
        }
    }

    private void years() {
        for (int k = 0; k <= 3; k++) {
            int kind = k;
            for (int n = 0; n < 9; n++) {
                int year = n / 3;
                int age = n % 3;
                ask("triangle " + k + " " + n, () -> house.triangle(kind, year, age));
                ask("factor " + k + " " + n, () -> house.factor(kind, year * 3 + age));
            }
            for (int n = 0; n < 3; n++) {
                int year = n;
                ask("ultimate " + k + " " + n, () -> house.ultimate(kind, year, false));
                ask("reserve " + k + " " + n, () -> house.reserve(kind, year));
            }
            ask("worst " + k, () -> house.worst(kind));
        }
    }

    /** The bytes of the tape are told by teach() alone, what is expected of the years to come by their reserves. */
    private void tapeAndYearsToCome() {
        ask("teach", house::teach);
        ask("errorAt", house::errorAt);
        ask("digest of what was taught", () -> Long.hashCode(house.digest()));
        ask("setTail", () -> house.setTail(3000));
        for (int now = house.count(3); now <= 9; now++) {
            ask("nextYear", house::nextYear);
        }
        for (int n = 0; n <= 9; n++) {
            int year = n;
            ask("reserve 2 " + n, () -> house.reserve(2, year));
            ask("setPremium " + n, () -> house.setPremium(year, 0, 0));
        }
        ask("open", () -> house.open(9, 5, 77));
        ask("digest at the end", () -> Long.hashCode(house.digest()));
    }
}
